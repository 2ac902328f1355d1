set_option maxRecDepth 20000 in
theorem J_inputLength {Z Z9 : CZ} {Y Y9 : RZ} {zz b : Int} (h : SIM Z Y) (h7 : F7_inputLength Z zz Z9) (h8 : F8_inputLength Y b Y9) : zz = b ∧ SIM Z9 Y9 := by
  obtain ⟨hb, hY⟩ := h8
  obtain ⟨hz, hZ⟩ := h7
  subst Y9 Z9
  refine ⟨?_, SIM_q h (AM_0) (SIM_PI h)⟩
  exact hz.trans ((h.2.1.2.2.1).trans hb.symm)
set_option maxRecDepth 20000 in
theorem J_undoCount {Z Z9 : CZ} {Y Y9 : RZ} {zz b : Int} (h : SIM Z Y) (h7 : F7_undoCount Z zz Z9) (h8 : F8_undoCount Y b Y9) : zz = b ∧ SIM Z9 Y9 := by
  obtain ⟨hb, hY⟩ := h8
  obtain ⟨hz, hZ⟩ := h7
  subst Y9 Z9
  refine ⟨?_, SIM_q h (AM_0) (SIM_PI h)⟩
  exact hz.trans ((h.2.2.1.2).trans hb.symm)
set_option maxRecDepth 20000 in
theorem J_scriptErrorKind {Z Z9 : CZ} {Y Y9 : RZ} {zz b : Int} (h : SIM Z Y) (h7 : F7_scriptErrorKind Z zz Z9) (h8 : F8_scriptErrorKind Y b Y9) : zz = b ∧ SIM Z9 Y9 := by
  obtain ⟨hb, hY⟩ := h8
  obtain ⟨hz, hZ⟩ := h7
  subst Y9 Z9
  refine ⟨?_, SIM_q h (AM_0) (SIM_PI h)⟩
  exact hz.trans ((h.2.2.2.2.2.1.1).trans hb.symm)
set_option maxRecDepth 20000 in
theorem J_scriptErrorOffset {Z Z9 : CZ} {Y Y9 : RZ} {zz b : Int} (h : SIM Z Y) (h7 : F7_scriptErrorOffset Z zz Z9) (h8 : F8_scriptErrorOffset Y b Y9) : zz = b ∧ SIM Z9 Y9 := by
  obtain ⟨hb, hY⟩ := h8
  obtain ⟨hz, hZ⟩ := h7
  subst Y9 Z9
  refine ⟨?_, SIM_q h (AM_0) (SIM_PI h)⟩
  exact hz.trans ((h.2.2.2.2.2.1.2).trans hb.symm)
set_option maxRecDepth 20000 in
theorem J_loanCount {Z Z9 : CZ} {Y Y9 : RZ} {zz b : Int} (h : SIM Z Y) (h7 : F7_loanCount Z zz Z9) (h8 : F8_loanCount Y b Y9) : zz = b ∧ SIM Z9 Y9 := by
  obtain ⟨hb, hY⟩ := h8
  obtain ⟨hz, hZ⟩ := h7
  subst Y9 Z9
  refine ⟨?_, SIM_q h (AM_0) (SIM_PI h)⟩
  exact hz.trans (((PW_n h.1.1).symm).trans hb.symm)
set_option maxRecDepth 20000 in
theorem J_openCount {Z Z9 : CZ} {Y Y9 : RZ} {zz b : Int} (h : SIM Z Y) (h7 : F7_openCount Z zz Z9) (h8 : F8_openCount Y b Y9) : zz = b ∧ SIM Z9 Y9 := by
  obtain ⟨hb, hY⟩ := h8
  obtain ⟨hz, hZ⟩ := h7
  subst Y9 Z9
  refine ⟨?_, SIM_q h (AM_0) (SIM_PI h)⟩
  exact hz.trans ((PW_cnt h.1.1).trans hb.symm)
set_option maxRecDepth 20000 in
theorem J_entryCount {Z Z9 : CZ} {Y Y9 : RZ} {zz b : Int} (h : SIM Z Y) (h7 : F7_entryCount Z zz Z9) (h8 : F8_entryCount Y b Y9) : zz = b ∧ SIM Z9 Y9 := by
  obtain ⟨hb, hY⟩ := h8
  obtain ⟨hz, hZ⟩ := h7
  subst Y9 Z9
  refine ⟨?_, SIM_q h (AM_0) (SIM_PI h)⟩
  exact hz.trans ((h.1.1.2.2.2.2.1.1.symm).trans hb.symm)
set_option maxRecDepth 20000 in
theorem J_entryLoan {Z Z9 : CZ} {Y Y9 : RZ} {i : Int} {zz b : Int} (h : SIM Z Y) (h7 : F7_entryLoan Z i zz Z9) (h8 : F8_entryLoan Y i b Y9) : zz = b ∧ SIM Z9 Y9 := by
  obtain ⟨r, f0, hb, hY⟩ := h8
  obtain ⟨z, a0, hz, hZ⟩ := h7
  subst Y9 Z9
  refine ⟨?_, SIM_q h (AM_0) (SIM_PI h)⟩
  have hk : eW Y 1 = Pk (zP Z) := h.1.1.2.2.2.2.1.1
  rw [hz, hb]
  rcases a0 with p | p <;> rcases f0 with q | q
  · exfalso; omega
  · rw [p.2, q.2]
  · have t := (h.1.1.2.2.2.2.2 i.toNat (by omega)).1
    rw [show ((i.toNat : Nat) : Int) = i by omega] at t
    rw [p.2.2, q.2.2, t]
    exact congrArg (eW Y) (by omega)
  · exfalso; omega
set_option maxRecDepth 20000 in
theorem J_entryAmount {Z Z9 : CZ} {Y Y9 : RZ} {i : Int} {zz b : Int} (h : SIM Z Y) (h7 : F7_entryAmount Z i zz Z9) (h8 : F8_entryAmount Y i b Y9) : zz = b ∧ SIM Z9 Y9 := by
  obtain ⟨r, f0, hb, hY⟩ := h8
  obtain ⟨z, a0, hz, hZ⟩ := h7
  subst Y9 Z9
  refine ⟨?_, SIM_q h (AM_0) (SIM_PI h)⟩
  have hk : eW Y 1 = Pk (zP Z) := h.1.1.2.2.2.2.1.1
  rw [hz, hb]
  rcases a0 with p | p <;> rcases f0 with q | q
  · exfalso; omega
  · rw [p.2, q.2]
  · have t := (h.1.1.2.2.2.2.2 i.toNat (by omega)).2.1
    rw [show ((i.toNat : Nat) : Int) = i by omega] at t
    rw [p.2.2, q.2.2, t]
    exact congrArg (eW Y) (by omega)
  · exfalso; omega
set_option maxRecDepth 20000 in
theorem J_entryInterest {Z Z9 : CZ} {Y Y9 : RZ} {i : Int} {zz b : Int} (h : SIM Z Y) (h7 : F7_entryInterest Z i zz Z9) (h8 : F8_entryInterest Y i b Y9) : zz = b ∧ SIM Z9 Y9 := by
  obtain ⟨r, f0, hb, hY⟩ := h8
  obtain ⟨z, a0, hz, hZ⟩ := h7
  subst Y9 Z9
  refine ⟨?_, SIM_q h (AM_0) (SIM_PI h)⟩
  have hk : eW Y 1 = Pk (zP Z) := h.1.1.2.2.2.2.1.1
  rw [hz, hb]
  rcases a0 with p | p <;> rcases f0 with q | q
  · exfalso; omega
  · rw [p.2, q.2]
  · have t := (h.1.1.2.2.2.2.2 i.toNat (by omega)).2.2
    rw [show ((i.toNat : Nat) : Int) = i by omega] at t
    rw [p.2.2, q.2.2, t]
    exact congrArg (eW Y) (by omega)
  · exfalso; omega
set_option maxRecDepth 20000 in
theorem J_totalInterestAhead {Z Z9 : CZ} {Y Y9 : RZ} {zz b : Int} (h : SIM Z Y) (h7 : F7_totalInterestAhead Z zz Z9) (h8 : F8_totalInterestAhead Y b Y9) : zz = b ∧ SIM Z9 Y9 := by
  obtain ⟨N, f0, f1, hb, hY⟩ := h8
  obtain ⟨A9, a0, hz, hZ⟩ := h7
  subst Y9 Z9
  refine ⟨?_, SIM_q h (AM_p f0) (SIM_PI h)⟩
  exact hz.trans ((PW_cost h.1.1).trans hb.symm)
set_option maxRecDepth 20000 in
theorem J_dearestLoan {Z Z9 : CZ} {Y Y9 : RZ} {zz b : Int} (h : SIM Z Y) (h7 : F7_dearestLoan Z zz Z9) (h8 : F8_dearestLoan Y b Y9) : zz = b ∧ SIM Z9 Y9 := by
  obtain ⟨hb, hY⟩ := h8
  obtain ⟨hz, hZ⟩ := h7
  subst Y9 Z9
  refine ⟨?_, SIM_q h (AM_0) (SIM_PI h)⟩
  exact hz.trans ((PW_dst h.1.1).trans hb.symm)
set_option maxRecDepth 20000 in
theorem J_smallestLoan {Z Z9 : CZ} {Y Y9 : RZ} {zz b : Int} (h : SIM Z Y) (h7 : F7_smallestLoan Z zz Z9) (h8 : F8_smallestLoan Y b Y9) : zz = b ∧ SIM Z9 Y9 := by
  obtain ⟨hb, hY⟩ := h8
  obtain ⟨hz, hZ⟩ := h7
  subst Y9 Z9
  refine ⟨?_, SIM_q h (AM_0) (SIM_PI h)⟩
  exact hz.trans ((PW_sml h.1.1).trans hb.symm)
set_option maxRecDepth 20000 in
theorem J_totalDue {Z Z9 : CZ} {Y Y9 : RZ} {zz b : Int} (h : SIM Z Y) (h7 : F7_totalDue Z zz Z9) (h8 : F8_totalDue Y b Y9) : zz = b ∧ SIM Z9 Y9 := by
  obtain ⟨N, f0, f1, hb, hY⟩ := h8
  obtain ⟨hz, hZ⟩ := h7
  subst Y9 Z9
  refine ⟨?_, SIM_q h (AM_p f0) (SIM_PI h)⟩
  exact hz.trans ((PW_due h.1.1).trans hb.symm)
set_option maxRecDepth 20000 in
theorem J_totalBalance {Z Z9 : CZ} {Y Y9 : RZ} {zz b : Int} (h : SIM Z Y) (h7 : F7_totalBalance Z zz Z9) (h8 : F8_totalBalance Y b Y9) : zz = b ∧ SIM Z9 Y9 := by
  obtain ⟨hb, hY⟩ := h8
  obtain ⟨hz, hZ⟩ := h7
  subst Y9 Z9
  refine ⟨?_, SIM_q h (AM_0) (SIM_PI h)⟩
  exact hz.trans ((PW_sum h.1.1 1 (by omega)).trans hb.symm)
set_option maxRecDepth 20000 in
theorem J_monthsToFreedom {Z Z9 : CZ} {Y Y9 : RZ} {zz b : Int} (h : SIM Z Y) (h7 : F7_monthsToFreedom Z zz Z9) (h8 : F8_monthsToFreedom Y b Y9) : zz = b ∧ SIM Z9 Y9 := by
  obtain ⟨N, f0, f1, hb, hY⟩ := h8
  obtain ⟨A9, a0, hz, hZ⟩ := h7
  subst Y9 Z9
  refine ⟨?_, SIM_q h (AM_p f0) (SIM_PI h)⟩
  exact hz.trans ((PW_most h.1.1).trans hb.symm)
set_option maxRecDepth 20000 in
theorem J_violations {Z Z9 : CZ} {Y Y9 : RZ} {zz b : Int} (h : SIM Z Y) (h7 : F7_violations Z zz Z9) (h8 : F8_violations Y b Y9) : zz = b ∧ SIM Z9 Y9 := by
  obtain ⟨N, f0, f1, hb, hY⟩ := h8
  obtain ⟨A9, a0, hz, hZ⟩ := h7
  subst Y9 Z9
  refine ⟨?_, SIM_q h (AM_p f0) (SIM_PI h)⟩
  exact hz.trans ((PW_bad h.1.1).trans hb.symm)
set_option maxRecDepth 20000 in
theorem J_averageRate {Z Z9 : CZ} {Y Y9 : RZ} {zz b : UInt64} (h : SIM Z Y) (h7 : F7_averageRate Z zz Z9) (h8 : F8_averageRate Y b Y9) : zz = b ∧ SIM Z9 Y9 := by
  obtain ⟨z, f0, hb, hY⟩ := h8
  obtain ⟨z, a0, hz, hZ⟩ := h7
  subst Y9 Z9
  refine ⟨?_, SIM_q h (AM_0) (SIM_PI h)⟩
  have s1 : sumF (fun i => PL (zP Z) i 1) (Pn (zP Z)).toNat = wFld (eW Y) 1 (eW Y 0).toNat := PW_sum h.1.1 1 (by omega)
  have s2 := PW_wgt h.1.1
  rw [s1, s2] at a0
  rw [hz, hb]
  rcases a0 with p | p <;> rcases f0 with q | q
  · rw [p.2, q.2]
  · exact absurd p.1 q.1
  · exact absurd q.1 p.1
  · rw [p.2, q.2]
set_option maxRecDepth 20000 in
theorem J_closedShare {Z Z9 : CZ} {Y Y9 : RZ} {zz b : UInt32} (h : SIM Z Y) (h7 : F7_closedShare Z zz Z9) (h8 : F8_closedShare Y b Y9) : zz = b ∧ SIM Z9 Y9 := by
  obtain ⟨z, f0, hb, hY⟩ := h8
  obtain ⟨z, a0, hz, hZ⟩ := h7
  subst Y9 Z9
  refine ⟨?_, SIM_q h (AM_0) (SIM_PI h)⟩
  have s1 := PW_cnt h.1.1
  have s2 := PW_n h.1.1
  rw [s1, ← s2] at a0
  rw [hz, hb]
  rcases a0 with p | p <;> rcases f0 with q | q
  · rw [p.2, q.2]
  · exact absurd p.1 q.1
  · exact absurd q.1 p.1
  · rw [p.2, q.2]
set_option maxRecDepth 20000 in
theorem J_reportByte {Z Z9 : CZ} {Y Y9 : RZ} {k : Int} {zz b : Int} (h : SIM Z Y) (h7 : F7_reportByte Z k zz Z9) (h8 : F8_reportByte Y k b Y9) : zz = b ∧ SIM Z9 Y9 := by
  obtain ⟨z, f0, hb, hY⟩ := h8
  obtain ⟨z, a0, hz, hZ⟩ := h7
  subst Y9 Z9
  refine ⟨?_, SIM_q h (AM_0) (SIM_PI h)⟩
  obtain ⟨r1, r2, r3⟩ := h.2.2.2.2.1
  rw [hz, hb]
  rcases a0 with p | p <;> rcases f0 with q | q
  · rw [p.2.2, q.2.2]; exact r3 k.toNat (by omega)
  · exfalso; omega
  · exfalso; omega
  · rw [p.2, q.2]
