set_option maxRecDepth 20000 in
theorem J_pay {Z Z9 : CZ} {Y Y9 : RZ} {i : Int} {kk b : Int} {g9 : Nat → Int64} (h : SIM Z Y) (h7 : W7_pay Z i kk Z9 g9) (h8 : F8_pay Y i b Y9) : kk = eM Y9 0 ∧ (kk = 0 → g9 0 = (iI b).toInt64) ∧ SIM Z9 Y9 := by
  have hn := PW_n h.1.1
  obtain ⟨N, u, p, K, z, hN, f1, hb, hY⟩ := h8
  subst b Y9
  rcases h7 with ⟨rfl, zz, ⟨a0, a1, hz, hZ⟩, hg⟩ | ⟨rfl, hx⟩ | ⟨rfl, hx⟩
  · subst Z9
    have e1 : PL (zP Z) i.toNat 1 = wOf (eW Y) i 1 := PW_L h.1.1 (by omega) (by omega) 1 (by omega)
    rcases f1 with ⟨n0, f2, rfl, f4, f5, rfl, rfl⟩ | ⟨n0, f2, rfl, -, f5, rfl, rfl⟩ | ⟨n0, f2, rfl, -, f5, rfl, rfl⟩
    · refine ⟨n0.symm, fun _ => ?_, SIM_c h (PW_pay h.1.1 a0.1 a0.2 a1) (HP_pay h.1.2.1) (AM_q hN) f5⟩
      have hv : zz = z := by
        exact hz.trans ((dueL_x (PW_L h.1.1 a0.1 a0.2)).trans f4.symm)
      rw [hg, hv]
    · exfalso; omega
    · exfalso; omega
  · obtain ⟨x0, hZ⟩ := hx
    subst Z9
    rcases x0 with ⟨-, x0⟩ | ⟨x0, -⟩
    · rcases f1 with ⟨n0, f2, -⟩ | ⟨n0, f2, rfl, -, f5, rfl, rfl⟩ | ⟨n0, f2, rfl, -, f5, rfl, rfl⟩
      · exfalso; (try have e1 : PL (zP Z) i.toNat 1 = wOf (eW Y) i 1 := PW_L h.1.1 (by omega) (by omega) 1 (by omega)); omega
      · first | exact ⟨n0.symm, fun q => absurd q (by omega), SIM_q h ⟨AM_q hN, f5⟩ (SIM_PI h)⟩ | (exfalso; (try have e1 : PL (zP Z) i.toNat 1 = wOf (eW Y) i 1 := PW_L h.1.1 (by omega) (by omega) 1 (by omega)); omega)
      · first | exact ⟨n0.symm, fun q => absurd q (by omega), SIM_q h ⟨AM_q hN, f5⟩ (SIM_PI h)⟩ | (exfalso; (try have e1 : PL (zP Z) i.toNat 1 = wOf (eW Y) i 1 := PW_L h.1.1 (by omega) (by omega) 1 (by omega)); omega)
    · exact absurd x0 (by decide)
  · obtain ⟨x0, hZ⟩ := hx
    subst Z9
    rcases x0 with ⟨x0, -⟩ | ⟨-, x0⟩
    · exact absurd x0 (by decide)
    · rcases f1 with ⟨n0, f2, -⟩ | ⟨n0, f2, rfl, -, f5, rfl, rfl⟩ | ⟨n0, f2, rfl, -, f5, rfl, rfl⟩
      · exfalso; (try have e1 : PL (zP Z) i.toNat 1 = wOf (eW Y) i 1 := PW_L h.1.1 (by omega) (by omega) 1 (by omega)); omega
      · first | exact ⟨n0.symm, fun q => absurd q (by omega), SIM_q h ⟨AM_q hN, f5⟩ (SIM_PI h)⟩ | (exfalso; (try have e1 : PL (zP Z) i.toNat 1 = wOf (eW Y) i 1 := PW_L h.1.1 (by omega) (by omega) 1 (by omega)); omega)
      · first | exact ⟨n0.symm, fun q => absurd q (by omega), SIM_q h ⟨AM_q hN, f5⟩ (SIM_PI h)⟩ | (exfalso; (try have e1 : PL (zP Z) i.toNat 1 = wOf (eW Y) i 1 := PW_L h.1.1 (by omega) (by omega) 1 (by omega)); omega)
set_option maxRecDepth 20000 in
theorem J_payExtra {Z Z9 : CZ} {Y Y9 : RZ} {i : Int} {k : Int} {y : Int} {kk b : Int} {g9 : Nat → Int64} (h : SIM Z Y) (hy : y = 0 ∨ y = 1) (h7 : W7_payExtra Z i k y kk Z9 g9) (h8 : F8_payExtra Y i k y b Y9) : kk = eM Y9 0 ∧ (kk = 0 → g9 0 = (iI b).toInt64) ∧ SIM Z9 Y9 := by
  have hn := PW_n h.1.1
  obtain ⟨N, u, p, K, z, hN, f1, hb, hY⟩ := h8
  subst b Y9
  rcases h7 with ⟨rfl, zz, ⟨a0, a1, a2, a3, hz, hZ⟩, hg⟩ | ⟨rfl, hx⟩ | ⟨rfl, hx⟩ | ⟨rfl, hx⟩
  · subst Z9
    have e1 : PL (zP Z) i.toNat 1 = wOf (eW Y) i 1 := PW_L h.1.1 (by omega) (by omega) 1 (by omega)
    rcases f1 with ⟨n0, f2, rfl, f4, f5, rfl, rfl⟩ | ⟨n0, f2, rfl, -, f5, rfl, rfl⟩ | ⟨n0, f2, rfl, -, f5, rfl, rfl⟩ | ⟨n0, f2, rfl, -, f5, rfl, rfl⟩
    · refine ⟨n0.symm, fun _ => ?_, SIM_c h (PW_red h.1.1 a0.1 a0.2 a2 a1.1 a3) (HP_red h.1.2.1) (AM_q hN) f5⟩
      have hv : zz = z := by
        have t := PW_L (PW_red (kp := y) h.1.1 a0.1 a0.2 a2 a1.1 a3) a0.1 a0.2 1 (by omega)
        exact hz.trans (t.trans f4.symm)
      rw [hg, hv]
    · exfalso; omega
    · exfalso; omega
    · exfalso; omega
  · obtain ⟨x0, hZ⟩ := hx
    subst Z9
    rcases x0 with ⟨-, x0⟩ | ⟨x0, -⟩ | ⟨x0, -⟩
    · rcases f1 with ⟨n0, f2, -⟩ | ⟨n0, f2, rfl, -, f5, rfl, rfl⟩ | ⟨n0, f2, rfl, -, f5, rfl, rfl⟩ | ⟨n0, f2, rfl, -, f5, rfl, rfl⟩
      · exfalso; (try have e1 : PL (zP Z) i.toNat 1 = wOf (eW Y) i 1 := PW_L h.1.1 (by omega) (by omega) 1 (by omega)); (try have l1 := (h.1.1.1.2.2.2 i.toNat (by omega)).1); omega
      · first | exact ⟨n0.symm, fun q => absurd q (by omega), SIM_q h ⟨AM_q hN, f5⟩ (SIM_PI h)⟩ | (exfalso; (try have e1 : PL (zP Z) i.toNat 1 = wOf (eW Y) i 1 := PW_L h.1.1 (by omega) (by omega) 1 (by omega)); (try have l1 := (h.1.1.1.2.2.2 i.toNat (by omega)).1); omega)
      · first | exact ⟨n0.symm, fun q => absurd q (by omega), SIM_q h ⟨AM_q hN, f5⟩ (SIM_PI h)⟩ | (exfalso; (try have e1 : PL (zP Z) i.toNat 1 = wOf (eW Y) i 1 := PW_L h.1.1 (by omega) (by omega) 1 (by omega)); (try have l1 := (h.1.1.1.2.2.2 i.toNat (by omega)).1); omega)
      · first | exact ⟨n0.symm, fun q => absurd q (by omega), SIM_q h ⟨AM_q hN, f5⟩ (SIM_PI h)⟩ | (exfalso; (try have e1 : PL (zP Z) i.toNat 1 = wOf (eW Y) i 1 := PW_L h.1.1 (by omega) (by omega) 1 (by omega)); (try have l1 := (h.1.1.1.2.2.2 i.toNat (by omega)).1); omega)
    · exact absurd x0 (by decide)
    · exact absurd x0 (by decide)
  · obtain ⟨x0, hZ⟩ := hx
    subst Z9
    rcases x0 with ⟨x0, -⟩ | ⟨-, x0⟩ | ⟨x0, -⟩
    · exact absurd x0 (by decide)
    · rcases f1 with ⟨n0, f2, -⟩ | ⟨n0, f2, rfl, -, f5, rfl, rfl⟩ | ⟨n0, f2, rfl, -, f5, rfl, rfl⟩ | ⟨n0, f2, rfl, -, f5, rfl, rfl⟩
      · exfalso; (try have e1 : PL (zP Z) i.toNat 1 = wOf (eW Y) i 1 := PW_L h.1.1 (by omega) (by omega) 1 (by omega)); (try have l1 := (h.1.1.1.2.2.2 i.toNat (by omega)).1); omega
      · first | exact ⟨n0.symm, fun q => absurd q (by omega), SIM_q h ⟨AM_q hN, f5⟩ (SIM_PI h)⟩ | (exfalso; (try have e1 : PL (zP Z) i.toNat 1 = wOf (eW Y) i 1 := PW_L h.1.1 (by omega) (by omega) 1 (by omega)); (try have l1 := (h.1.1.1.2.2.2 i.toNat (by omega)).1); omega)
      · first | exact ⟨n0.symm, fun q => absurd q (by omega), SIM_q h ⟨AM_q hN, f5⟩ (SIM_PI h)⟩ | (exfalso; (try have e1 : PL (zP Z) i.toNat 1 = wOf (eW Y) i 1 := PW_L h.1.1 (by omega) (by omega) 1 (by omega)); (try have l1 := (h.1.1.1.2.2.2 i.toNat (by omega)).1); omega)
      · first | exact ⟨n0.symm, fun q => absurd q (by omega), SIM_q h ⟨AM_q hN, f5⟩ (SIM_PI h)⟩ | (exfalso; (try have e1 : PL (zP Z) i.toNat 1 = wOf (eW Y) i 1 := PW_L h.1.1 (by omega) (by omega) 1 (by omega)); (try have l1 := (h.1.1.1.2.2.2 i.toNat (by omega)).1); omega)
    · exact absurd x0 (by decide)
  · obtain ⟨x0, hZ⟩ := hx
    subst Z9
    rcases x0 with ⟨x0, -⟩ | ⟨x0, -⟩ | ⟨-, x0⟩
    · exact absurd x0 (by decide)
    · exact absurd x0 (by decide)
    · rcases f1 with ⟨n0, f2, -⟩ | ⟨n0, f2, rfl, -, f5, rfl, rfl⟩ | ⟨n0, f2, rfl, -, f5, rfl, rfl⟩ | ⟨n0, f2, rfl, -, f5, rfl, rfl⟩
      · exfalso; (try have e1 : PL (zP Z) i.toNat 1 = wOf (eW Y) i 1 := PW_L h.1.1 (by omega) (by omega) 1 (by omega)); (try have l1 := (h.1.1.1.2.2.2 i.toNat (by omega)).1); omega
      · first | exact ⟨n0.symm, fun q => absurd q (by omega), SIM_q h ⟨AM_q hN, f5⟩ (SIM_PI h)⟩ | (exfalso; (try have e1 : PL (zP Z) i.toNat 1 = wOf (eW Y) i 1 := PW_L h.1.1 (by omega) (by omega) 1 (by omega)); (try have l1 := (h.1.1.1.2.2.2 i.toNat (by omega)).1); omega)
      · first | exact ⟨n0.symm, fun q => absurd q (by omega), SIM_q h ⟨AM_q hN, f5⟩ (SIM_PI h)⟩ | (exfalso; (try have e1 : PL (zP Z) i.toNat 1 = wOf (eW Y) i 1 := PW_L h.1.1 (by omega) (by omega) 1 (by omega)); (try have l1 := (h.1.1.1.2.2.2 i.toNat (by omega)).1); omega)
      · first | exact ⟨n0.symm, fun q => absurd q (by omega), SIM_q h ⟨AM_q hN, f5⟩ (SIM_PI h)⟩ | (exfalso; (try have e1 : PL (zP Z) i.toNat 1 = wOf (eW Y) i 1 := PW_L h.1.1 (by omega) (by omega) 1 (by omega)); (try have l1 := (h.1.1.1.2.2.2 i.toNat (by omega)).1); omega)
set_option maxRecDepth 20000 in
theorem J_skipMonth {Z Z9 : CZ} {Y Y9 : RZ} {i : Int} {kk b : Int} {g9 : Nat → Int64} (h : SIM Z Y) (h7 : W7_skipMonth Z i kk Z9 g9) (h8 : F8_skipMonth Y i b Y9) : kk = eM Y9 0 ∧ (kk = 0 → g9 0 = (iI b).toInt64) ∧ SIM Z9 Y9 := by
  have hn := PW_n h.1.1
  obtain ⟨N, u, p, K, z, hN, f1, hb, hY⟩ := h8
  subst b Y9
  rcases h7 with ⟨rfl, zz, ⟨a0, a1, a2, a3, hz, hZ⟩, hg⟩ | ⟨rfl, hx⟩ | ⟨rfl, hx⟩
  · subst Z9
    have e1 : PL (zP Z) i.toNat 1 = wOf (eW Y) i 1 := PW_L h.1.1 (by omega) (by omega) 1 (by omega)
    have e2 : PL (zP Z) i.toNat 2 = wOf (eW Y) i 2 := PW_L h.1.1 (by omega) (by omega) 2 (by omega)
    have e5 : PL (zP Z) i.toNat 5 = wOf (eW Y) i 5 := PW_L h.1.1 (by omega) (by omega) 5 (by omega)
    have e9 : PL (zP Z) i.toNat 9 = wOf (eW Y) i 9 := PW_L h.1.1 (by omega) (by omega) 9 (by omega)
    have b3 := a3
    rw [e1, e2, e5] at a3
    rcases f1 with ⟨n0, f2, rfl, f4, f5, rfl, rfl⟩ | ⟨n0, f2, rfl, -, f5, rfl, rfl⟩ | ⟨n0, f2, rfl, -, f5, rfl, rfl⟩
    · refine ⟨n0.symm, fun _ => ?_, SIM_c h (PW_def h.1.1 a0.1 a0.2 a1 a2 b3) (HP_def h.1.2.1) (AM_q hN) f5⟩
      have hv : zz = z := by
        rw [hz, f4, e1, e2, e5]
      rw [hg, hv]
    · exfalso; omega
    · exfalso; omega
  · obtain ⟨x0, hZ⟩ := hx
    subst Z9
    rcases x0 with ⟨-, x0⟩ | ⟨x0, -⟩
    · rcases f1 with ⟨n0, f2, -⟩ | ⟨n0, f2, rfl, -, f5, rfl, rfl⟩ | ⟨n0, f2, rfl, -, f5, rfl, rfl⟩
      · exfalso; (try (have e1 : PL (zP Z) i.toNat 1 = wOf (eW Y) i 1 := PW_L h.1.1 (by omega) (by omega) 1 (by omega))); (try (have e2 : PL (zP Z) i.toNat 2 = wOf (eW Y) i 2 := PW_L h.1.1 (by omega) (by omega) 2 (by omega))); (try (have e5 : PL (zP Z) i.toNat 5 = wOf (eW Y) i 5 := PW_L h.1.1 (by omega) (by omega) 5 (by omega))); (try (have e9 : PL (zP Z) i.toNat 9 = wOf (eW Y) i 9 := PW_L h.1.1 (by omega) (by omega) 9 (by omega))); (try rw [e1, e2, e5] at x0); omega
      · first | exact ⟨n0.symm, fun q => absurd q (by omega), SIM_q h ⟨AM_q hN, f5⟩ (SIM_PI h)⟩ | (exfalso; (try (have e1 : PL (zP Z) i.toNat 1 = wOf (eW Y) i 1 := PW_L h.1.1 (by omega) (by omega) 1 (by omega))); (try (have e2 : PL (zP Z) i.toNat 2 = wOf (eW Y) i 2 := PW_L h.1.1 (by omega) (by omega) 2 (by omega))); (try (have e5 : PL (zP Z) i.toNat 5 = wOf (eW Y) i 5 := PW_L h.1.1 (by omega) (by omega) 5 (by omega))); (try (have e9 : PL (zP Z) i.toNat 9 = wOf (eW Y) i 9 := PW_L h.1.1 (by omega) (by omega) 9 (by omega))); (try rw [e1, e2, e5] at x0); omega)
      · first | exact ⟨n0.symm, fun q => absurd q (by omega), SIM_q h ⟨AM_q hN, f5⟩ (SIM_PI h)⟩ | (exfalso; (try (have e1 : PL (zP Z) i.toNat 1 = wOf (eW Y) i 1 := PW_L h.1.1 (by omega) (by omega) 1 (by omega))); (try (have e2 : PL (zP Z) i.toNat 2 = wOf (eW Y) i 2 := PW_L h.1.1 (by omega) (by omega) 2 (by omega))); (try (have e5 : PL (zP Z) i.toNat 5 = wOf (eW Y) i 5 := PW_L h.1.1 (by omega) (by omega) 5 (by omega))); (try (have e9 : PL (zP Z) i.toNat 9 = wOf (eW Y) i 9 := PW_L h.1.1 (by omega) (by omega) 9 (by omega))); (try rw [e1, e2, e5] at x0); omega)
    · exact absurd x0 (by decide)
  · obtain ⟨x0, hZ⟩ := hx
    subst Z9
    rcases x0 with ⟨x0, -⟩ | ⟨-, x0⟩
    · exact absurd x0 (by decide)
    · rcases f1 with ⟨n0, f2, -⟩ | ⟨n0, f2, rfl, -, f5, rfl, rfl⟩ | ⟨n0, f2, rfl, -, f5, rfl, rfl⟩
      · exfalso; (try (have e1 : PL (zP Z) i.toNat 1 = wOf (eW Y) i 1 := PW_L h.1.1 (by omega) (by omega) 1 (by omega))); (try (have e2 : PL (zP Z) i.toNat 2 = wOf (eW Y) i 2 := PW_L h.1.1 (by omega) (by omega) 2 (by omega))); (try (have e5 : PL (zP Z) i.toNat 5 = wOf (eW Y) i 5 := PW_L h.1.1 (by omega) (by omega) 5 (by omega))); (try (have e9 : PL (zP Z) i.toNat 9 = wOf (eW Y) i 9 := PW_L h.1.1 (by omega) (by omega) 9 (by omega))); (try rw [e1, e2, e5] at x0); omega
      · first | exact ⟨n0.symm, fun q => absurd q (by omega), SIM_q h ⟨AM_q hN, f5⟩ (SIM_PI h)⟩ | (exfalso; (try (have e1 : PL (zP Z) i.toNat 1 = wOf (eW Y) i 1 := PW_L h.1.1 (by omega) (by omega) 1 (by omega))); (try (have e2 : PL (zP Z) i.toNat 2 = wOf (eW Y) i 2 := PW_L h.1.1 (by omega) (by omega) 2 (by omega))); (try (have e5 : PL (zP Z) i.toNat 5 = wOf (eW Y) i 5 := PW_L h.1.1 (by omega) (by omega) 5 (by omega))); (try (have e9 : PL (zP Z) i.toNat 9 = wOf (eW Y) i 9 := PW_L h.1.1 (by omega) (by omega) 9 (by omega))); (try rw [e1, e2, e5] at x0); omega)
      · first | exact ⟨n0.symm, fun q => absurd q (by omega), SIM_q h ⟨AM_q hN, f5⟩ (SIM_PI h)⟩ | (exfalso; (try (have e1 : PL (zP Z) i.toNat 1 = wOf (eW Y) i 1 := PW_L h.1.1 (by omega) (by omega) 1 (by omega))); (try (have e2 : PL (zP Z) i.toNat 2 = wOf (eW Y) i 2 := PW_L h.1.1 (by omega) (by omega) 2 (by omega))); (try (have e5 : PL (zP Z) i.toNat 5 = wOf (eW Y) i 5 := PW_L h.1.1 (by omega) (by omega) 5 (by omega))); (try (have e9 : PL (zP Z) i.toNat 9 = wOf (eW Y) i 9 := PW_L h.1.1 (by omega) (by omega) 9 (by omega))); (try rw [e1, e2, e5] at x0); omega)
set_option maxRecDepth 20000 in
theorem J_changeRate {Z Z9 : CZ} {Y Y9 : RZ} {i : Int} {k : Int} {kk b : Int} {g9 : Nat → Int64} (h : SIM Z Y) (h7 : W7_changeRate Z i k kk Z9 g9) (h8 : F8_changeRate Y i k b Y9) : kk = eM Y9 0 ∧ (kk = 0 → g9 0 = (iI b).toInt64) ∧ SIM Z9 Y9 := by
  have hn := PW_n h.1.1
  obtain ⟨N, u, p, K, z, hN, f1, hb, hY⟩ := h8
  subst b Y9
  rcases h7 with ⟨rfl, zz, ⟨a0, a1, a2, hz, hZ⟩, hg⟩ | ⟨rfl, hx⟩ | ⟨rfl, hx⟩ | ⟨rfl, hx⟩
  · subst Z9
    have e1 : PL (zP Z) i.toNat 1 = wOf (eW Y) i 1 := PW_L h.1.1 (by omega) (by omega) 1 (by omega)
    rcases f1 with ⟨n0, f2, rfl, f4, f5, rfl, rfl⟩ | ⟨n0, f2, rfl, -, f5, rfl, rfl⟩ | ⟨n0, f2, rfl, -, f5, rfl, rfl⟩ | ⟨n0, f2, rfl, -, f5, rfl, rfl⟩
    · refine ⟨n0.symm, fun _ => ?_, SIM_c h (PW_rate h.1.1 a0.1 a0.2 a2 a1) (HP_set h.1.2.1) (AM_q hN) f5⟩
      have hv : zz = z := by
        have t := PW_L (PW_rate (r := k) h.1.1 a0.1 a0.2 a2 a1) a0.1 a0.2 4 (by omega)
        have hr : PL (plL (zP Z) i.toNat (setL (PL (zP Z) i.toNat) k (PL (zP Z) i.toNat 3))) i.toNat = setL (PL (zP Z) i.toNat) k (PL (zP Z) i.toNat 3) := uF_s
        rw [hr] at t
        exact hz.trans (t.trans f4.symm)
      rw [hg, hv]
    · exfalso; omega
    · exfalso; omega
    · exfalso; omega
  · obtain ⟨x0, hZ⟩ := hx
    subst Z9
    rcases x0 with ⟨-, x0⟩ | ⟨x0, -⟩ | ⟨x0, -⟩
    · rcases f1 with ⟨n0, f2, -⟩ | ⟨n0, f2, rfl, -, f5, rfl, rfl⟩ | ⟨n0, f2, rfl, -, f5, rfl, rfl⟩ | ⟨n0, f2, rfl, -, f5, rfl, rfl⟩
      · exfalso; (try have e1 : PL (zP Z) i.toNat 1 = wOf (eW Y) i 1 := PW_L h.1.1 (by omega) (by omega) 1 (by omega)); omega
      · first | exact ⟨n0.symm, fun q => absurd q (by omega), SIM_q h ⟨AM_q hN, f5⟩ (SIM_PI h)⟩ | (exfalso; (try have e1 : PL (zP Z) i.toNat 1 = wOf (eW Y) i 1 := PW_L h.1.1 (by omega) (by omega) 1 (by omega)); omega)
      · first | exact ⟨n0.symm, fun q => absurd q (by omega), SIM_q h ⟨AM_q hN, f5⟩ (SIM_PI h)⟩ | (exfalso; (try have e1 : PL (zP Z) i.toNat 1 = wOf (eW Y) i 1 := PW_L h.1.1 (by omega) (by omega) 1 (by omega)); omega)
      · first | exact ⟨n0.symm, fun q => absurd q (by omega), SIM_q h ⟨AM_q hN, f5⟩ (SIM_PI h)⟩ | (exfalso; (try have e1 : PL (zP Z) i.toNat 1 = wOf (eW Y) i 1 := PW_L h.1.1 (by omega) (by omega) 1 (by omega)); omega)
    · exact absurd x0 (by decide)
    · exact absurd x0 (by decide)
  · obtain ⟨x0, hZ⟩ := hx
    subst Z9
    rcases x0 with ⟨x0, -⟩ | ⟨-, x0⟩ | ⟨x0, -⟩
    · exact absurd x0 (by decide)
    · rcases f1 with ⟨n0, f2, -⟩ | ⟨n0, f2, rfl, -, f5, rfl, rfl⟩ | ⟨n0, f2, rfl, -, f5, rfl, rfl⟩ | ⟨n0, f2, rfl, -, f5, rfl, rfl⟩
      · exfalso; (try have e1 : PL (zP Z) i.toNat 1 = wOf (eW Y) i 1 := PW_L h.1.1 (by omega) (by omega) 1 (by omega)); omega
      · first | exact ⟨n0.symm, fun q => absurd q (by omega), SIM_q h ⟨AM_q hN, f5⟩ (SIM_PI h)⟩ | (exfalso; (try have e1 : PL (zP Z) i.toNat 1 = wOf (eW Y) i 1 := PW_L h.1.1 (by omega) (by omega) 1 (by omega)); omega)
      · first | exact ⟨n0.symm, fun q => absurd q (by omega), SIM_q h ⟨AM_q hN, f5⟩ (SIM_PI h)⟩ | (exfalso; (try have e1 : PL (zP Z) i.toNat 1 = wOf (eW Y) i 1 := PW_L h.1.1 (by omega) (by omega) 1 (by omega)); omega)
      · first | exact ⟨n0.symm, fun q => absurd q (by omega), SIM_q h ⟨AM_q hN, f5⟩ (SIM_PI h)⟩ | (exfalso; (try have e1 : PL (zP Z) i.toNat 1 = wOf (eW Y) i 1 := PW_L h.1.1 (by omega) (by omega) 1 (by omega)); omega)
    · exact absurd x0 (by decide)
  · obtain ⟨x0, hZ⟩ := hx
    subst Z9
    rcases x0 with ⟨x0, -⟩ | ⟨x0, -⟩ | ⟨-, x0⟩
    · exact absurd x0 (by decide)
    · exact absurd x0 (by decide)
    · rcases f1 with ⟨n0, f2, -⟩ | ⟨n0, f2, rfl, -, f5, rfl, rfl⟩ | ⟨n0, f2, rfl, -, f5, rfl, rfl⟩ | ⟨n0, f2, rfl, -, f5, rfl, rfl⟩
      · exfalso; (try have e1 : PL (zP Z) i.toNat 1 = wOf (eW Y) i 1 := PW_L h.1.1 (by omega) (by omega) 1 (by omega)); omega
      · first | exact ⟨n0.symm, fun q => absurd q (by omega), SIM_q h ⟨AM_q hN, f5⟩ (SIM_PI h)⟩ | (exfalso; (try have e1 : PL (zP Z) i.toNat 1 = wOf (eW Y) i 1 := PW_L h.1.1 (by omega) (by omega) 1 (by omega)); omega)
      · first | exact ⟨n0.symm, fun q => absurd q (by omega), SIM_q h ⟨AM_q hN, f5⟩ (SIM_PI h)⟩ | (exfalso; (try have e1 : PL (zP Z) i.toNat 1 = wOf (eW Y) i 1 := PW_L h.1.1 (by omega) (by omega) 1 (by omega)); omega)
      · first | exact ⟨n0.symm, fun q => absurd q (by omega), SIM_q h ⟨AM_q hN, f5⟩ (SIM_PI h)⟩ | (exfalso; (try have e1 : PL (zP Z) i.toNat 1 = wOf (eW Y) i 1 := PW_L h.1.1 (by omega) (by omega) 1 (by omega)); omega)
set_option maxRecDepth 20000 in
theorem J_extendTerm {Z Z9 : CZ} {Y Y9 : RZ} {i : Int} {k : Int} {kk b : Int} {g9 : Nat → Int64} (h : SIM Z Y) (h7 : W7_extendTerm Z i k kk Z9 g9) (h8 : F8_extendTerm Y i k b Y9) : kk = eM Y9 0 ∧ (kk = 0 → g9 0 = (iI b).toInt64) ∧ SIM Z9 Y9 := by
  have hn := PW_n h.1.1
  obtain ⟨N, u, p, K, z, hN, f1, hb, hY⟩ := h8
  subst b Y9
  rcases h7 with ⟨rfl, zz, ⟨a0, a1, a2, a3, hz, hZ⟩, hg⟩ | ⟨rfl, hx⟩ | ⟨rfl, hx⟩ | ⟨rfl, hx⟩
  · subst Z9
    have e1 : PL (zP Z) i.toNat 1 = wOf (eW Y) i 1 := PW_L h.1.1 (by omega) (by omega) 1 (by omega)
    have e3 : PL (zP Z) i.toNat 3 = wOf (eW Y) i 3 := PW_L h.1.1 (by omega) (by omega) 3 (by omega)
    rcases f1 with ⟨n0, f2, rfl, f4, f5, rfl, rfl⟩ | ⟨n0, f2, rfl, -, f5, rfl, rfl⟩ | ⟨n0, f2, rfl, -, f5, rfl, rfl⟩ | ⟨n0, f2, rfl, -, f5, rfl, rfl⟩
    · refine ⟨n0.symm, fun _ => ?_, SIM_c h (PW_long h.1.1 a0.1 a0.2 a2 a1.1 a3) (HP_set h.1.2.1) (AM_q hN) f5⟩
      have hv : zz = z := by
        have t := PW_L (PW_long (m := k) h.1.1 a0.1 a0.2 a2 a1.1 a3) a0.1 a0.2 4 (by omega)
        have hr : PL (plL (zP Z) i.toNat (setL (PL (zP Z) i.toNat) (PL (zP Z) i.toNat 2) (PL (zP Z) i.toNat 3 + k))) i.toNat = setL (PL (zP Z) i.toNat) (PL (zP Z) i.toNat 2) (PL (zP Z) i.toNat 3 + k) := uF_s
        rw [hr] at t
        exact hz.trans (t.trans f4.symm)
      rw [hg, hv]
    · exfalso; omega
    · exfalso; omega
    · exfalso; omega
  · obtain ⟨x0, hZ⟩ := hx
    subst Z9
    rcases x0 with ⟨-, x0⟩ | ⟨x0, -⟩ | ⟨x0, -⟩
    · rcases f1 with ⟨n0, f2, -⟩ | ⟨n0, f2, rfl, -, f5, rfl, rfl⟩ | ⟨n0, f2, rfl, -, f5, rfl, rfl⟩ | ⟨n0, f2, rfl, -, f5, rfl, rfl⟩
      · exfalso; (try have e1 : PL (zP Z) i.toNat 1 = wOf (eW Y) i 1 := PW_L h.1.1 (by omega) (by omega) 1 (by omega)); (try (have e3 : PL (zP Z) i.toNat 3 = wOf (eW Y) i 3 := PW_L h.1.1 (by omega) (by omega) 3 (by omega))); omega
      · first | exact ⟨n0.symm, fun q => absurd q (by omega), SIM_q h ⟨AM_q hN, f5⟩ (SIM_PI h)⟩ | (exfalso; (try have e1 : PL (zP Z) i.toNat 1 = wOf (eW Y) i 1 := PW_L h.1.1 (by omega) (by omega) 1 (by omega)); (try (have e3 : PL (zP Z) i.toNat 3 = wOf (eW Y) i 3 := PW_L h.1.1 (by omega) (by omega) 3 (by omega))); omega)
      · first | exact ⟨n0.symm, fun q => absurd q (by omega), SIM_q h ⟨AM_q hN, f5⟩ (SIM_PI h)⟩ | (exfalso; (try have e1 : PL (zP Z) i.toNat 1 = wOf (eW Y) i 1 := PW_L h.1.1 (by omega) (by omega) 1 (by omega)); (try (have e3 : PL (zP Z) i.toNat 3 = wOf (eW Y) i 3 := PW_L h.1.1 (by omega) (by omega) 3 (by omega))); omega)
      · first | exact ⟨n0.symm, fun q => absurd q (by omega), SIM_q h ⟨AM_q hN, f5⟩ (SIM_PI h)⟩ | (exfalso; (try have e1 : PL (zP Z) i.toNat 1 = wOf (eW Y) i 1 := PW_L h.1.1 (by omega) (by omega) 1 (by omega)); (try (have e3 : PL (zP Z) i.toNat 3 = wOf (eW Y) i 3 := PW_L h.1.1 (by omega) (by omega) 3 (by omega))); omega)
    · exact absurd x0 (by decide)
    · exact absurd x0 (by decide)
  · obtain ⟨x0, hZ⟩ := hx
    subst Z9
    rcases x0 with ⟨x0, -⟩ | ⟨-, x0⟩ | ⟨x0, -⟩
    · exact absurd x0 (by decide)
    · rcases f1 with ⟨n0, f2, -⟩ | ⟨n0, f2, rfl, -, f5, rfl, rfl⟩ | ⟨n0, f2, rfl, -, f5, rfl, rfl⟩ | ⟨n0, f2, rfl, -, f5, rfl, rfl⟩
      · exfalso; (try have e1 : PL (zP Z) i.toNat 1 = wOf (eW Y) i 1 := PW_L h.1.1 (by omega) (by omega) 1 (by omega)); (try (have e3 : PL (zP Z) i.toNat 3 = wOf (eW Y) i 3 := PW_L h.1.1 (by omega) (by omega) 3 (by omega))); omega
      · first | exact ⟨n0.symm, fun q => absurd q (by omega), SIM_q h ⟨AM_q hN, f5⟩ (SIM_PI h)⟩ | (exfalso; (try have e1 : PL (zP Z) i.toNat 1 = wOf (eW Y) i 1 := PW_L h.1.1 (by omega) (by omega) 1 (by omega)); (try (have e3 : PL (zP Z) i.toNat 3 = wOf (eW Y) i 3 := PW_L h.1.1 (by omega) (by omega) 3 (by omega))); omega)
      · first | exact ⟨n0.symm, fun q => absurd q (by omega), SIM_q h ⟨AM_q hN, f5⟩ (SIM_PI h)⟩ | (exfalso; (try have e1 : PL (zP Z) i.toNat 1 = wOf (eW Y) i 1 := PW_L h.1.1 (by omega) (by omega) 1 (by omega)); (try (have e3 : PL (zP Z) i.toNat 3 = wOf (eW Y) i 3 := PW_L h.1.1 (by omega) (by omega) 3 (by omega))); omega)
      · first | exact ⟨n0.symm, fun q => absurd q (by omega), SIM_q h ⟨AM_q hN, f5⟩ (SIM_PI h)⟩ | (exfalso; (try have e1 : PL (zP Z) i.toNat 1 = wOf (eW Y) i 1 := PW_L h.1.1 (by omega) (by omega) 1 (by omega)); (try (have e3 : PL (zP Z) i.toNat 3 = wOf (eW Y) i 3 := PW_L h.1.1 (by omega) (by omega) 3 (by omega))); omega)
    · exact absurd x0 (by decide)
  · obtain ⟨x0, hZ⟩ := hx
    subst Z9
    rcases x0 with ⟨x0, -⟩ | ⟨x0, -⟩ | ⟨-, x0⟩
    · exact absurd x0 (by decide)
    · exact absurd x0 (by decide)
    · rcases f1 with ⟨n0, f2, -⟩ | ⟨n0, f2, rfl, -, f5, rfl, rfl⟩ | ⟨n0, f2, rfl, -, f5, rfl, rfl⟩ | ⟨n0, f2, rfl, -, f5, rfl, rfl⟩
      · exfalso; (try have e1 : PL (zP Z) i.toNat 1 = wOf (eW Y) i 1 := PW_L h.1.1 (by omega) (by omega) 1 (by omega)); (try (have e3 : PL (zP Z) i.toNat 3 = wOf (eW Y) i 3 := PW_L h.1.1 (by omega) (by omega) 3 (by omega))); omega
      · first | exact ⟨n0.symm, fun q => absurd q (by omega), SIM_q h ⟨AM_q hN, f5⟩ (SIM_PI h)⟩ | (exfalso; (try have e1 : PL (zP Z) i.toNat 1 = wOf (eW Y) i 1 := PW_L h.1.1 (by omega) (by omega) 1 (by omega)); (try (have e3 : PL (zP Z) i.toNat 3 = wOf (eW Y) i 3 := PW_L h.1.1 (by omega) (by omega) 3 (by omega))); omega)
      · first | exact ⟨n0.symm, fun q => absurd q (by omega), SIM_q h ⟨AM_q hN, f5⟩ (SIM_PI h)⟩ | (exfalso; (try have e1 : PL (zP Z) i.toNat 1 = wOf (eW Y) i 1 := PW_L h.1.1 (by omega) (by omega) 1 (by omega)); (try (have e3 : PL (zP Z) i.toNat 3 = wOf (eW Y) i 3 := PW_L h.1.1 (by omega) (by omega) 3 (by omega))); omega)
      · first | exact ⟨n0.symm, fun q => absurd q (by omega), SIM_q h ⟨AM_q hN, f5⟩ (SIM_PI h)⟩ | (exfalso; (try have e1 : PL (zP Z) i.toNat 1 = wOf (eW Y) i 1 := PW_L h.1.1 (by omega) (by omega) 1 (by omega)); (try (have e3 : PL (zP Z) i.toNat 3 = wOf (eW Y) i 3 := PW_L h.1.1 (by omega) (by omega) 3 (by omega))); omega)
set_option maxRecDepth 20000 in
theorem J_refinance {Z Z9 : CZ} {Y Y9 : RZ} {i : Int} {k : Int} {m : Int} {kk b : Int} {g9 : Nat → Int64} (h : SIM Z Y) (h7 : W7_refinance Z i k m kk Z9 g9) (h8 : F8_refinance Y i k m b Y9) : kk = eM Y9 0 ∧ (kk = 0 → g9 0 = (iI b).toInt64) ∧ SIM Z9 Y9 := by
  have hn := PW_n h.1.1
  obtain ⟨N, u, p, K, z, hN, f1, hb, hY⟩ := h8
  subst b Y9
  rcases h7 with ⟨rfl, zz, ⟨a0, a1, a2, hz, hZ⟩, hg⟩ | ⟨rfl, hx⟩ | ⟨rfl, hx⟩ | ⟨rfl, hx⟩
  · subst Z9
    have e1 : PL (zP Z) i.toNat 1 = wOf (eW Y) i 1 := PW_L h.1.1 (by omega) (by omega) 1 (by omega)
    rcases f1 with ⟨n0, f2, rfl, f4, f5, rfl, rfl⟩ | ⟨n0, f2, rfl, -, f5, rfl, rfl⟩ | ⟨n0, f2, rfl, -, f5, rfl, rfl⟩ | ⟨n0, f2, rfl, -, f5, rfl, rfl⟩
    · refine ⟨n0.symm, fun _ => ?_, SIM_c h (PW_set h.1.1 a0.1 a0.2 a2 a1.1 a1.2) (HP_set h.1.2.1) (AM_q hN) f5⟩
      have hv : zz = z := by
        have t := PW_L (PW_set (r := k) (m := m) h.1.1 a0.1 a0.2 a2 a1.1 a1.2) a0.1 a0.2 4 (by omega)
        have hr : PL (plL (zP Z) i.toNat (setL (PL (zP Z) i.toNat) k m)) i.toNat = setL (PL (zP Z) i.toNat) k m := uF_s
        rw [hr] at t
        exact hz.trans (t.trans f4.symm)
      rw [hg, hv]
    · exfalso; omega
    · exfalso; omega
    · exfalso; omega
  · obtain ⟨x0, hZ⟩ := hx
    subst Z9
    rcases x0 with ⟨-, x0⟩ | ⟨x0, -⟩ | ⟨x0, -⟩
    · rcases f1 with ⟨n0, f2, -⟩ | ⟨n0, f2, rfl, -, f5, rfl, rfl⟩ | ⟨n0, f2, rfl, -, f5, rfl, rfl⟩ | ⟨n0, f2, rfl, -, f5, rfl, rfl⟩
      · exfalso; (try have e1 : PL (zP Z) i.toNat 1 = wOf (eW Y) i 1 := PW_L h.1.1 (by omega) (by omega) 1 (by omega)); omega
      · first | exact ⟨n0.symm, fun q => absurd q (by omega), SIM_q h ⟨AM_q hN, f5⟩ (SIM_PI h)⟩ | (exfalso; (try have e1 : PL (zP Z) i.toNat 1 = wOf (eW Y) i 1 := PW_L h.1.1 (by omega) (by omega) 1 (by omega)); omega)
      · first | exact ⟨n0.symm, fun q => absurd q (by omega), SIM_q h ⟨AM_q hN, f5⟩ (SIM_PI h)⟩ | (exfalso; (try have e1 : PL (zP Z) i.toNat 1 = wOf (eW Y) i 1 := PW_L h.1.1 (by omega) (by omega) 1 (by omega)); omega)
      · first | exact ⟨n0.symm, fun q => absurd q (by omega), SIM_q h ⟨AM_q hN, f5⟩ (SIM_PI h)⟩ | (exfalso; (try have e1 : PL (zP Z) i.toNat 1 = wOf (eW Y) i 1 := PW_L h.1.1 (by omega) (by omega) 1 (by omega)); omega)
    · exact absurd x0 (by decide)
    · exact absurd x0 (by decide)
  · obtain ⟨x0, hZ⟩ := hx
    subst Z9
    rcases x0 with ⟨x0, -⟩ | ⟨-, x0⟩ | ⟨x0, -⟩
    · exact absurd x0 (by decide)
    · rcases f1 with ⟨n0, f2, -⟩ | ⟨n0, f2, rfl, -, f5, rfl, rfl⟩ | ⟨n0, f2, rfl, -, f5, rfl, rfl⟩ | ⟨n0, f2, rfl, -, f5, rfl, rfl⟩
      · exfalso; (try have e1 : PL (zP Z) i.toNat 1 = wOf (eW Y) i 1 := PW_L h.1.1 (by omega) (by omega) 1 (by omega)); omega
      · first | exact ⟨n0.symm, fun q => absurd q (by omega), SIM_q h ⟨AM_q hN, f5⟩ (SIM_PI h)⟩ | (exfalso; (try have e1 : PL (zP Z) i.toNat 1 = wOf (eW Y) i 1 := PW_L h.1.1 (by omega) (by omega) 1 (by omega)); omega)
      · first | exact ⟨n0.symm, fun q => absurd q (by omega), SIM_q h ⟨AM_q hN, f5⟩ (SIM_PI h)⟩ | (exfalso; (try have e1 : PL (zP Z) i.toNat 1 = wOf (eW Y) i 1 := PW_L h.1.1 (by omega) (by omega) 1 (by omega)); omega)
      · first | exact ⟨n0.symm, fun q => absurd q (by omega), SIM_q h ⟨AM_q hN, f5⟩ (SIM_PI h)⟩ | (exfalso; (try have e1 : PL (zP Z) i.toNat 1 = wOf (eW Y) i 1 := PW_L h.1.1 (by omega) (by omega) 1 (by omega)); omega)
    · exact absurd x0 (by decide)
  · obtain ⟨x0, hZ⟩ := hx
    subst Z9
    rcases x0 with ⟨x0, -⟩ | ⟨x0, -⟩ | ⟨-, x0⟩
    · exact absurd x0 (by decide)
    · exact absurd x0 (by decide)
    · rcases f1 with ⟨n0, f2, -⟩ | ⟨n0, f2, rfl, -, f5, rfl, rfl⟩ | ⟨n0, f2, rfl, -, f5, rfl, rfl⟩ | ⟨n0, f2, rfl, -, f5, rfl, rfl⟩
      · exfalso; (try have e1 : PL (zP Z) i.toNat 1 = wOf (eW Y) i 1 := PW_L h.1.1 (by omega) (by omega) 1 (by omega)); omega
      · first | exact ⟨n0.symm, fun q => absurd q (by omega), SIM_q h ⟨AM_q hN, f5⟩ (SIM_PI h)⟩ | (exfalso; (try have e1 : PL (zP Z) i.toNat 1 = wOf (eW Y) i 1 := PW_L h.1.1 (by omega) (by omega) 1 (by omega)); omega)
      · first | exact ⟨n0.symm, fun q => absurd q (by omega), SIM_q h ⟨AM_q hN, f5⟩ (SIM_PI h)⟩ | (exfalso; (try have e1 : PL (zP Z) i.toNat 1 = wOf (eW Y) i 1 := PW_L h.1.1 (by omega) (by omega) 1 (by omega)); omega)
      · first | exact ⟨n0.symm, fun q => absurd q (by omega), SIM_q h ⟨AM_q hN, f5⟩ (SIM_PI h)⟩ | (exfalso; (try have e1 : PL (zP Z) i.toNat 1 = wOf (eW Y) i 1 := PW_L h.1.1 (by omega) (by omega) 1 (by omega)); omega)
set_option maxRecDepth 20000 in
theorem J_openLoan {Z Z9 : CZ} {Y Y9 : RZ} {k : Int} {r : Int} {m : Int} {kk b : Int} {g9 : Nat → Int64} (h : SIM Z Y) (h7 : W7_openLoan Z k r m kk Z9 g9) (h8 : F8_openLoan Y k r m b Y9) : kk = eM Y9 0 ∧ (kk = 0 → g9 0 = (iI b).toInt64) ∧ SIM Z9 Y9 := by
  have hn := PW_n h.1.1
  obtain ⟨N, u, p, K, z, hN, f1, hb, hY⟩ := h8
  subst b Y9
  rcases h7 with ⟨rfl, zz, ⟨a0, a1, hz, hZ⟩, hg⟩ | ⟨rfl, hx⟩ | ⟨rfl, hx⟩
  · subst Z9
    have hn6 := h.1.1.1.1
    rcases f1 with ⟨n0, f2, rfl, f4, f5, rfl, rfl⟩ | ⟨n0, f2, rfl, -, f5, rfl, rfl⟩ | ⟨n0, f2, rfl, -, f5, rfl, rfl⟩
    · refine ⟨n0.symm, fun _ => ?_, SIM_c h (PW_new h.1.1 a1 a0.1 a0.2.1 a0.2.2) (HP_new h.1.2.1 h.1.1.1.1.1 a0.1) (AM_q hN) f5⟩
      have hv : zz = z := by
        have t : Pn (plNew (zP Z) k r m) = Pn (zP Z) + 1 := rfl
        rw [hz, f4, t, hn]; omega
      rw [hg, hv]
    · exfalso; omega
    · exfalso; omega
  · obtain ⟨x0, hZ⟩ := hx
    subst Z9
    rcases x0 with ⟨-, x0⟩ | ⟨x0, -⟩
    · rcases f1 with ⟨n0, f2, -⟩ | ⟨n0, f2, rfl, -, f5, rfl, rfl⟩ | ⟨n0, f2, rfl, -, f5, rfl, rfl⟩
      · exfalso; (have hn6 := h.1.1.1.1); omega
      · first | exact ⟨n0.symm, fun q => absurd q (by omega), SIM_q h ⟨AM_q hN, f5⟩ (SIM_PI h)⟩ | (exfalso; (have hn6 := h.1.1.1.1); omega)
      · first | exact ⟨n0.symm, fun q => absurd q (by omega), SIM_q h ⟨AM_q hN, f5⟩ (SIM_PI h)⟩ | (exfalso; (have hn6 := h.1.1.1.1); omega)
    · exact absurd x0 (by decide)
  · obtain ⟨x0, hZ⟩ := hx
    subst Z9
    rcases x0 with ⟨x0, -⟩ | ⟨-, x0⟩
    · exact absurd x0 (by decide)
    · rcases f1 with ⟨n0, f2, -⟩ | ⟨n0, f2, rfl, -, f5, rfl, rfl⟩ | ⟨n0, f2, rfl, -, f5, rfl, rfl⟩
      · exfalso; (have hn6 := h.1.1.1.1); omega
      · first | exact ⟨n0.symm, fun q => absurd q (by omega), SIM_q h ⟨AM_q hN, f5⟩ (SIM_PI h)⟩ | (exfalso; (have hn6 := h.1.1.1.1); omega)
      · first | exact ⟨n0.symm, fun q => absurd q (by omega), SIM_q h ⟨AM_q hN, f5⟩ (SIM_PI h)⟩ | (exfalso; (have hn6 := h.1.1.1.1); omega)
set_option maxRecDepth 20000 in
theorem J_spendExtra {Z Z9 : CZ} {Y Y9 : RZ} {k : Int} {kk b : Int} {g9 : Nat → Int64} (h : SIM Z Y) (h7 : W7_spendExtra Z k kk Z9 g9) (h8 : F8_spendExtra Y k b Y9) : kk = eM Y9 0 ∧ (kk = 0 → g9 0 = (iI b).toInt64) ∧ SIM Z9 Y9 := by
  have hn := PW_n h.1.1
  obtain ⟨N, u, p, K, z, hN, f1, hb, hY⟩ := h8
  subst b Y9
  rcases h7 with ⟨rfl, zz, ⟨a0, hz, hZ⟩, hg⟩ | ⟨rfl, hx⟩
  · subst Z9
    rcases f1 with ⟨n0, f2, rfl, f4, f5, rfl, rfl⟩ | ⟨n0, f2, rfl, -, f5, rfl, rfl⟩
    · refine ⟨n0.symm, fun _ => ?_, SIM_c h ((PW_sp 1 6 (zP Z) (eW Y) k h.1.1).1) (HP_sp 1 6 _ _ h.1.2.1) (AM_q hN) f5⟩
      have hv : zz = z := by
        rw [hz, f4, (PW_sp 1 6 (zP Z) (eW Y) k h.1.1).2]
      rw [hg, hv]
    · exfalso; omega
  · obtain ⟨x0, hZ⟩ := hx
    subst Z9
    have x0 := x0.2
    rcases f1 with ⟨n0, f2, -⟩ | ⟨n0, f2, rfl, -, f5, rfl, rfl⟩
    · exfalso; omega
    · first | exact ⟨n0.symm, fun q => absurd q (by omega), SIM_q h ⟨AM_q hN, f5⟩ (SIM_PI h)⟩ | (exfalso; omega)
set_option maxRecDepth 20000 in
theorem J_payAll {Z Z9 : CZ} {Y Y9 : RZ} {zz b : Int} (h : SIM Z Y) (h7 : F7_payAll Z zz Z9) (h8 : F8_payAll Y b Y9) : zz = b ∧ SIM Z9 Y9 := by
  obtain ⟨N, u, p, K, z, hN, ⟨n0, -, rfl, f4, f5, rfl, rfl⟩, hb, hY⟩ := h8
  obtain ⟨hz, hZ⟩ := h7
  subst b Y9 Z9
  have hn := PW_n h.1.1
  have h0 := h.1.1.1.1
  have q := PW_all h.1.1 (Pn (zP Z)).toNat (by omega)
  rw [hn] at f4 ⊢
  exact ⟨hz.trans (q.2.trans f4.symm), SIM_c h q.1 (HP_all h.1.2.1 _) (AM_q hN) f5⟩
