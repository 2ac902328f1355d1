set_option maxRecDepth 20000 in
theorem J_principal {Z Z9 : CZ} {Y Y9 : RZ} {i : Int} {kk b : Int} {g9 : Nat → Int64} (h : SIM Z Y) (h7 : W7_principal Z i kk Z9 g9) (h8 : F8_principal Y i b Y9) : kk = eM Y9 0 ∧ (kk = 0 → g9 0 = (iI b).toInt64) ∧ SIM Z9 Y9 := by
  have hn := PW_n h.1.1
  obtain ⟨N, r, hN, f1, hb, hY⟩ := h8
  subst b Y9
  rcases h7 with ⟨rfl, zz, ⟨a0, hz, hZ⟩, hg⟩ | ⟨rfl, hx⟩
  · subst Z9
    have e := PW_L h.1.1 a0.1 a0.2
    have hv : zz = r ∧ N 0 = 0 := by
      rcases f1 with ⟨n0, f1⟩ | ⟨n0, f1⟩
      · refine ⟨?_, n0⟩
        have e0 : PL (zP Z) i.toNat 0 = wOf (eW Y) i 0 := e 0 (by omega)
        exact hz.trans (e0.trans f1.2.2.symm)
      · exfalso; omega
    exact ⟨hv.2.symm, fun _ => by rw [hg, hv.1], SIM_q h (AM_p hN) (SIM_PI h)⟩
  · obtain ⟨x0, x1, hZ⟩ := hx
    subst Z9
    exact ⟨by show (1 : Int) = N 0; omega, fun q => absurd q (by omega), SIM_q h (AM_p hN) (SIM_PI h)⟩
set_option maxRecDepth 20000 in
theorem J_balance {Z Z9 : CZ} {Y Y9 : RZ} {i : Int} {kk b : Int} {g9 : Nat → Int64} (h : SIM Z Y) (h7 : W7_balance Z i kk Z9 g9) (h8 : F8_balance Y i b Y9) : kk = eM Y9 0 ∧ (kk = 0 → g9 0 = (iI b).toInt64) ∧ SIM Z9 Y9 := by
  have hn := PW_n h.1.1
  obtain ⟨N, r, hN, f1, hb, hY⟩ := h8
  subst b Y9
  rcases h7 with ⟨rfl, zz, ⟨a0, hz, hZ⟩, hg⟩ | ⟨rfl, hx⟩
  · subst Z9
    have e := PW_L h.1.1 a0.1 a0.2
    have hv : zz = r ∧ N 0 = 0 := by
      rcases f1 with ⟨n0, f1⟩ | ⟨n0, f1⟩
      · refine ⟨?_, n0⟩
        have e1 : PL (zP Z) i.toNat 1 = wOf (eW Y) i 1 := e 1 (by omega)
        exact hz.trans (e1.trans f1.2.2.symm)
      · exfalso; omega
    exact ⟨hv.2.symm, fun _ => by rw [hg, hv.1], SIM_q h (AM_p hN) (SIM_PI h)⟩
  · obtain ⟨x0, x1, hZ⟩ := hx
    subst Z9
    exact ⟨by show (1 : Int) = N 0; omega, fun q => absurd q (by omega), SIM_q h (AM_p hN) (SIM_PI h)⟩
set_option maxRecDepth 20000 in
theorem J_rate {Z Z9 : CZ} {Y Y9 : RZ} {i : Int} {kk b : Int} {g9 : Nat → Int64} (h : SIM Z Y) (h7 : W7_rate Z i kk Z9 g9) (h8 : F8_rate Y i b Y9) : kk = eM Y9 0 ∧ (kk = 0 → g9 0 = (iI b).toInt64) ∧ SIM Z9 Y9 := by
  have hn := PW_n h.1.1
  obtain ⟨N, r, hN, f1, hb, hY⟩ := h8
  subst b Y9
  rcases h7 with ⟨rfl, zz, ⟨a0, hz, hZ⟩, hg⟩ | ⟨rfl, hx⟩
  · subst Z9
    have e := PW_L h.1.1 a0.1 a0.2
    have hv : zz = r ∧ N 0 = 0 := by
      rcases f1 with ⟨n0, f1⟩ | ⟨n0, f1⟩
      · refine ⟨?_, n0⟩
        have e2 : PL (zP Z) i.toNat 2 = wOf (eW Y) i 2 := e 2 (by omega)
        exact hz.trans (e2.trans f1.2.2.symm)
      · exfalso; omega
    exact ⟨hv.2.symm, fun _ => by rw [hg, hv.1], SIM_q h (AM_p hN) (SIM_PI h)⟩
  · obtain ⟨x0, x1, hZ⟩ := hx
    subst Z9
    exact ⟨by show (1 : Int) = N 0; omega, fun q => absurd q (by omega), SIM_q h (AM_p hN) (SIM_PI h)⟩
set_option maxRecDepth 20000 in
theorem J_monthsLeft {Z Z9 : CZ} {Y Y9 : RZ} {i : Int} {kk b : Int} {g9 : Nat → Int64} (h : SIM Z Y) (h7 : W7_monthsLeft Z i kk Z9 g9) (h8 : F8_monthsLeft Y i b Y9) : kk = eM Y9 0 ∧ (kk = 0 → g9 0 = (iI b).toInt64) ∧ SIM Z9 Y9 := by
  have hn := PW_n h.1.1
  obtain ⟨N, r, hN, f1, hb, hY⟩ := h8
  subst b Y9
  rcases h7 with ⟨rfl, zz, ⟨a0, hz, hZ⟩, hg⟩ | ⟨rfl, hx⟩
  · subst Z9
    have e := PW_L h.1.1 a0.1 a0.2
    have hv : zz = r ∧ N 0 = 0 := by
      rcases f1 with ⟨n0, f1⟩ | ⟨n0, f1⟩
      · refine ⟨?_, n0⟩
        have e3 : PL (zP Z) i.toNat 3 = wOf (eW Y) i 3 := e 3 (by omega)
        exact hz.trans (e3.trans f1.2.2.symm)
      · exfalso; omega
    exact ⟨hv.2.symm, fun _ => by rw [hg, hv.1], SIM_q h (AM_p hN) (SIM_PI h)⟩
  · obtain ⟨x0, x1, hZ⟩ := hx
    subst Z9
    exact ⟨by show (1 : Int) = N 0; omega, fun q => absurd q (by omega), SIM_q h (AM_p hN) (SIM_PI h)⟩
set_option maxRecDepth 20000 in
theorem J_installment {Z Z9 : CZ} {Y Y9 : RZ} {i : Int} {kk b : Int} {g9 : Nat → Int64} (h : SIM Z Y) (h7 : W7_installment Z i kk Z9 g9) (h8 : F8_installment Y i b Y9) : kk = eM Y9 0 ∧ (kk = 0 → g9 0 = (iI b).toInt64) ∧ SIM Z9 Y9 := by
  have hn := PW_n h.1.1
  obtain ⟨N, r, hN, f1, hb, hY⟩ := h8
  subst b Y9
  rcases h7 with ⟨rfl, zz, ⟨a0, hz, hZ⟩, hg⟩ | ⟨rfl, hx⟩
  · subst Z9
    have e := PW_L h.1.1 a0.1 a0.2
    have hv : zz = r ∧ N 0 = 0 := by
      rcases f1 with ⟨n0, f1⟩ | ⟨n0, f1⟩
      · refine ⟨?_, n0⟩
        have e4 : PL (zP Z) i.toNat 4 = wOf (eW Y) i 4 := e 4 (by omega)
        exact hz.trans (e4.trans f1.2.2.symm)
      · exfalso; omega
    exact ⟨hv.2.symm, fun _ => by rw [hg, hv.1], SIM_q h (AM_p hN) (SIM_PI h)⟩
  · obtain ⟨x0, x1, hZ⟩ := hx
    subst Z9
    exact ⟨by show (1 : Int) = N 0; omega, fun q => absurd q (by omega), SIM_q h (AM_p hN) (SIM_PI h)⟩
set_option maxRecDepth 20000 in
theorem J_carry {Z Z9 : CZ} {Y Y9 : RZ} {i : Int} {kk b : Int} {g9 : Nat → Int64} (h : SIM Z Y) (h7 : W7_carry Z i kk Z9 g9) (h8 : F8_carry Y i b Y9) : kk = eM Y9 0 ∧ (kk = 0 → g9 0 = (iI b).toInt64) ∧ SIM Z9 Y9 := by
  have hn := PW_n h.1.1
  obtain ⟨N, r, hN, f1, hb, hY⟩ := h8
  subst b Y9
  rcases h7 with ⟨rfl, zz, ⟨a0, hz, hZ⟩, hg⟩ | ⟨rfl, hx⟩
  · subst Z9
    have e := PW_L h.1.1 a0.1 a0.2
    have hv : zz = r ∧ N 0 = 0 := by
      rcases f1 with ⟨n0, f1⟩ | ⟨n0, f1⟩
      · refine ⟨?_, n0⟩
        have e5 : PL (zP Z) i.toNat 5 = wOf (eW Y) i 5 := e 5 (by omega)
        exact hz.trans (e5.trans f1.2.2.symm)
      · exfalso; omega
    exact ⟨hv.2.symm, fun _ => by rw [hg, hv.1], SIM_q h (AM_p hN) (SIM_PI h)⟩
  · obtain ⟨x0, x1, hZ⟩ := hx
    subst Z9
    exact ⟨by show (1 : Int) = N 0; omega, fun q => absurd q (by omega), SIM_q h (AM_p hN) (SIM_PI h)⟩
set_option maxRecDepth 20000 in
theorem J_interestSoFar {Z Z9 : CZ} {Y Y9 : RZ} {i : Int} {kk b : Int} {g9 : Nat → Int64} (h : SIM Z Y) (h7 : W7_interestSoFar Z i kk Z9 g9) (h8 : F8_interestSoFar Y i b Y9) : kk = eM Y9 0 ∧ (kk = 0 → g9 0 = (iI b).toInt64) ∧ SIM Z9 Y9 := by
  have hn := PW_n h.1.1
  obtain ⟨N, r, hN, f1, hb, hY⟩ := h8
  subst b Y9
  rcases h7 with ⟨rfl, zz, ⟨a0, hz, hZ⟩, hg⟩ | ⟨rfl, hx⟩
  · subst Z9
    have e := PW_L h.1.1 a0.1 a0.2
    have hv : zz = r ∧ N 0 = 0 := by
      rcases f1 with ⟨n0, f1⟩ | ⟨n0, f1⟩
      · refine ⟨?_, n0⟩
        have e6 : PL (zP Z) i.toNat 6 = wOf (eW Y) i 6 := e 6 (by omega)
        exact hz.trans (e6.trans f1.2.2.symm)
      · exfalso; omega
    exact ⟨hv.2.symm, fun _ => by rw [hg, hv.1], SIM_q h (AM_p hN) (SIM_PI h)⟩
  · obtain ⟨x0, x1, hZ⟩ := hx
    subst Z9
    exact ⟨by show (1 : Int) = N 0; omega, fun q => absurd q (by omega), SIM_q h (AM_p hN) (SIM_PI h)⟩
set_option maxRecDepth 20000 in
theorem J_paidSoFar {Z Z9 : CZ} {Y Y9 : RZ} {i : Int} {kk b : Int} {g9 : Nat → Int64} (h : SIM Z Y) (h7 : W7_paidSoFar Z i kk Z9 g9) (h8 : F8_paidSoFar Y i b Y9) : kk = eM Y9 0 ∧ (kk = 0 → g9 0 = (iI b).toInt64) ∧ SIM Z9 Y9 := by
  have hn := PW_n h.1.1
  obtain ⟨N, r, hN, f1, hb, hY⟩ := h8
  subst b Y9
  rcases h7 with ⟨rfl, zz, ⟨a0, hz, hZ⟩, hg⟩ | ⟨rfl, hx⟩
  · subst Z9
    have e := PW_L h.1.1 a0.1 a0.2
    have hv : zz = r ∧ N 0 = 0 := by
      rcases f1 with ⟨n0, f1⟩ | ⟨n0, f1⟩
      · refine ⟨?_, n0⟩
        have e7 : PL (zP Z) i.toNat 7 = wOf (eW Y) i 7 := e 7 (by omega)
        exact hz.trans (e7.trans f1.2.2.symm)
      · exfalso; omega
    exact ⟨hv.2.symm, fun _ => by rw [hg, hv.1], SIM_q h (AM_p hN) (SIM_PI h)⟩
  · obtain ⟨x0, x1, hZ⟩ := hx
    subst Z9
    exact ⟨by show (1 : Int) = N 0; omega, fun q => absurd q (by omega), SIM_q h (AM_p hN) (SIM_PI h)⟩
set_option maxRecDepth 20000 in
theorem J_paidMonths {Z Z9 : CZ} {Y Y9 : RZ} {i : Int} {kk b : Int} {g9 : Nat → Int64} (h : SIM Z Y) (h7 : W7_paidMonths Z i kk Z9 g9) (h8 : F8_paidMonths Y i b Y9) : kk = eM Y9 0 ∧ (kk = 0 → g9 0 = (iI b).toInt64) ∧ SIM Z9 Y9 := by
  have hn := PW_n h.1.1
  obtain ⟨N, r, hN, f1, hb, hY⟩ := h8
  subst b Y9
  rcases h7 with ⟨rfl, zz, ⟨a0, hz, hZ⟩, hg⟩ | ⟨rfl, hx⟩
  · subst Z9
    have e := PW_L h.1.1 a0.1 a0.2
    have hv : zz = r ∧ N 0 = 0 := by
      rcases f1 with ⟨n0, f1⟩ | ⟨n0, f1⟩
      · refine ⟨?_, n0⟩
        have e8 : PL (zP Z) i.toNat 8 = wOf (eW Y) i 8 := e 8 (by omega)
        exact hz.trans (e8.trans f1.2.2.symm)
      · exfalso; omega
    exact ⟨hv.2.symm, fun _ => by rw [hg, hv.1], SIM_q h (AM_p hN) (SIM_PI h)⟩
  · obtain ⟨x0, x1, hZ⟩ := hx
    subst Z9
    exact ⟨by show (1 : Int) = N 0; omega, fun q => absurd q (by omega), SIM_q h (AM_p hN) (SIM_PI h)⟩
set_option maxRecDepth 20000 in
theorem J_skippedMonths {Z Z9 : CZ} {Y Y9 : RZ} {i : Int} {kk b : Int} {g9 : Nat → Int64} (h : SIM Z Y) (h7 : W7_skippedMonths Z i kk Z9 g9) (h8 : F8_skippedMonths Y i b Y9) : kk = eM Y9 0 ∧ (kk = 0 → g9 0 = (iI b).toInt64) ∧ SIM Z9 Y9 := by
  have hn := PW_n h.1.1
  obtain ⟨N, r, hN, f1, hb, hY⟩ := h8
  subst b Y9
  rcases h7 with ⟨rfl, zz, ⟨a0, hz, hZ⟩, hg⟩ | ⟨rfl, hx⟩
  · subst Z9
    have e := PW_L h.1.1 a0.1 a0.2
    have hv : zz = r ∧ N 0 = 0 := by
      rcases f1 with ⟨n0, f1⟩ | ⟨n0, f1⟩
      · refine ⟨?_, n0⟩
        have e9 : PL (zP Z) i.toNat 9 = wOf (eW Y) i 9 := e 9 (by omega)
        exact hz.trans (e9.trans f1.2.2.symm)
      · exfalso; omega
    exact ⟨hv.2.symm, fun _ => by rw [hg, hv.1], SIM_q h (AM_p hN) (SIM_PI h)⟩
  · obtain ⟨x0, x1, hZ⟩ := hx
    subst Z9
    exact ⟨by show (1 : Int) = N 0; omega, fun q => absurd q (by omega), SIM_q h (AM_p hN) (SIM_PI h)⟩
set_option maxRecDepth 20000 in
theorem J_interestDue {Z Z9 : CZ} {Y Y9 : RZ} {i : Int} {kk b : Int} {g9 : Nat → Int64} (h : SIM Z Y) (h7 : W7_interestDue Z i kk Z9 g9) (h8 : F8_interestDue Y i b Y9) : kk = eM Y9 0 ∧ (kk = 0 → g9 0 = (iI b).toInt64) ∧ SIM Z9 Y9 := by
  have hn := PW_n h.1.1
  obtain ⟨N, r, hN, f1, hb, hY⟩ := h8
  subst b Y9
  rcases h7 with ⟨rfl, zz, ⟨a0, hz, hZ⟩, hg⟩ | ⟨rfl, hx⟩
  · subst Z9
    have e := PW_L h.1.1 a0.1 a0.2
    have hv : zz = r ∧ N 0 = 0 := by
      rcases f1 with ⟨n0, f1⟩ | ⟨n0, f1⟩
      · refine ⟨?_, n0⟩
        have e1 : PL (zP Z) i.toNat 1 = wOf (eW Y) i 1 := e 1 (by omega)
        have e2 : PL (zP Z) i.toNat 2 = wOf (eW Y) i 2 := e 2 (by omega)
        have e5 : PL (zP Z) i.toNat 5 = wOf (eW Y) i 5 := e 5 (by omega)
        rw [hz, e1, e2, e5]; exact f1.2.2.symm
      · exfalso; omega
    exact ⟨hv.2.symm, fun _ => by rw [hg, hv.1], SIM_q h (AM_p hN) (SIM_PI h)⟩
  · obtain ⟨x0, x1, hZ⟩ := hx
    subst Z9
    exact ⟨by show (1 : Int) = N 0; omega, fun q => absurd q (by omega), SIM_q h (AM_p hN) (SIM_PI h)⟩
set_option maxRecDepth 20000 in
theorem J_amountDue {Z Z9 : CZ} {Y Y9 : RZ} {i : Int} {kk b : Int} {g9 : Nat → Int64} (h : SIM Z Y) (h7 : W7_amountDue Z i kk Z9 g9) (h8 : F8_amountDue Y i b Y9) : kk = eM Y9 0 ∧ (kk = 0 → g9 0 = (iI b).toInt64) ∧ SIM Z9 Y9 := by
  have hn := PW_n h.1.1
  obtain ⟨N, r, hN, f1, hb, hY⟩ := h8
  subst b Y9
  rcases h7 with ⟨rfl, zz, ⟨a0, hz, hZ⟩, hg⟩ | ⟨rfl, hx⟩
  · subst Z9
    have e := PW_L h.1.1 a0.1 a0.2
    have hv : zz = r ∧ N 0 = 0 := by
      rcases f1 with ⟨n0, f1⟩ | ⟨n0, f1⟩
      · refine ⟨?_, n0⟩
        exact hz.trans ((dueL_x e).trans f1.2.2.symm)
      · exfalso; omega
    exact ⟨hv.2.symm, fun _ => by rw [hg, hv.1], SIM_q h (AM_p hN) (SIM_PI h)⟩
  · obtain ⟨x0, x1, hZ⟩ := hx
    subst Z9
    exact ⟨by show (1 : Int) = N 0; omega, fun q => absurd q (by omega), SIM_q h (AM_p hN) (SIM_PI h)⟩
set_option maxRecDepth 20000 in
theorem J_interestAhead {Z Z9 : CZ} {Y Y9 : RZ} {i : Int} {kk b : Int} {g9 : Nat → Int64} (h : SIM Z Y) (h7 : W7_interestAhead Z i kk Z9 g9) (h8 : F8_interestAhead Y i b Y9) : kk = eM Y9 0 ∧ (kk = 0 → g9 0 = (iI b).toInt64) ∧ SIM Z9 Y9 := by
  have hn := PW_n h.1.1
  obtain ⟨N, r, hN, f1, hb, hY⟩ := h8
  subst b Y9
  rcases h7 with ⟨rfl, zz, ⟨A9, a0, hz, hZ⟩, hg⟩ | ⟨rfl, hx⟩
  · subst Z9
    have e := PW_L h.1.1 a0.1 a0.2
    have hv : zz = r ∧ N 0 = 0 := by
      rcases f1 with ⟨n0, f1⟩ | ⟨n0, f1⟩
      · refine ⟨?_, n0⟩
        rw [hz, runL_x 120 e 6 (by omega), e 6 (by omega)]; exact f1.2.2.symm
      · exfalso; omega
    exact ⟨hv.2.symm, fun _ => by rw [hg, hv.1], SIM_q h (AM_p hN) (SIM_PI h)⟩
  · obtain ⟨x0, x1, hZ⟩ := hx
    subst Z9
    exact ⟨by show (1 : Int) = N 0; omega, fun q => absurd q (by omega), SIM_q h (AM_p hN) (SIM_PI h)⟩
set_option maxRecDepth 20000 in
theorem J_lastDue {Z Z9 : CZ} {Y Y9 : RZ} {i : Int} {kk b : Int} {g9 : Nat → Int64} (h : SIM Z Y) (h7 : W7_lastDue Z i kk Z9 g9) (h8 : F8_lastDue Y i b Y9) : kk = eM Y9 0 ∧ (kk = 0 → g9 0 = (iI b).toInt64) ∧ SIM Z9 Y9 := by
  have hn := PW_n h.1.1
  obtain ⟨N, r, hN, f1, hb, hY⟩ := h8
  subst b Y9
  rcases h7 with ⟨rfl, zz, ⟨A9, a0, hz, hZ⟩, hg⟩ | ⟨rfl, hx⟩
  · subst Z9
    have e := PW_L h.1.1 a0.1 a0.2
    have hv : zz = r ∧ N 0 = 0 := by
      rcases f1 with ⟨n0, f1⟩ | ⟨n0, f1⟩
      · refine ⟨?_, n0⟩
        exact hz.trans ((lastL_x 120 e).trans f1.2.2.symm)
      · exfalso; omega
    exact ⟨hv.2.symm, fun _ => by rw [hg, hv.1], SIM_q h (AM_p hN) (SIM_PI h)⟩
  · obtain ⟨x0, x1, hZ⟩ := hx
    subst Z9
    exact ⟨by show (1 : Int) = N 0; omega, fun q => absurd q (by omega), SIM_q h (AM_p hN) (SIM_PI h)⟩
set_option maxRecDepth 20000 in
theorem J_monthsToHalf {Z Z9 : CZ} {Y Y9 : RZ} {i : Int} {kk b : Int} {g9 : Nat → Int64} (h : SIM Z Y) (h7 : W7_monthsToHalf Z i kk Z9 g9) (h8 : F8_monthsToHalf Y i b Y9) : kk = eM Y9 0 ∧ (kk = 0 → g9 0 = (iI b).toInt64) ∧ SIM Z9 Y9 := by
  have hn := PW_n h.1.1
  obtain ⟨N, r, hN, f1, hb, hY⟩ := h8
  subst b Y9
  rcases h7 with ⟨rfl, zz, ⟨A9, a0, hz, hZ⟩, hg⟩ | ⟨rfl, hx⟩
  · subst Z9
    have e := PW_L h.1.1 a0.1 a0.2
    have hv : zz = r ∧ N 0 = 0 := by
      rcases f1 with ⟨n0, f1⟩ | ⟨n0, f1⟩
      · refine ⟨?_, n0⟩
        have e0 : PL (zP Z) i.toNat 0 = wOf (eW Y) i 0 := e 0 (by omega)
        rw [hz, e0, untL_x 120 e]; exact f1.2.2.symm
      · exfalso; omega
    exact ⟨hv.2.symm, fun _ => by rw [hg, hv.1], SIM_q h (AM_p hN) (SIM_PI h)⟩
  · obtain ⟨x0, x1, hZ⟩ := hx
    subst Z9
    exact ⟨by show (1 : Int) = N 0; omega, fun q => absurd q (by omega), SIM_q h (AM_p hN) (SIM_PI h)⟩
