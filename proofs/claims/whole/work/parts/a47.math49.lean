/-! the history on both sides -/
def HIS (nx m : Int) (Q : Nat → PT) (q : Nat → Nat) (C : Nat → Nat → Int) : Prop :=
  (0 ≤ nx ∧ nx < 8) ∧ (0 ≤ m ∧ m ≤ 8) ∧ (∀ j, j < 8 → q j < 8) ∧ (∀ j k, j < 8 → k < 8 → q j = q k → j = k) ∧ (∀ j, PI (Q j)) ∧
  ∀ i : Nat, (i : Int) < m → PW (Q ((nx - m + i) % 8).toNat) (C (q i)) ∧ HP (Q ((nx - m + i) % 8).toNat)
theorem rotQ_7 (q : Nat → Nat) : rotQ q 7 = q 0 := uF_s
theorem rotQ_s {q : Nat → Nat} {j : Nat} (h : j < 7) : rotQ q j = q (j + 1) := by
  unfold rotQ
  rw [uF_n (by omega)]
  exact if_pos (by omega)
theorem rotQ_i {q : Nat → Nat} (h : ∀ j k, j < 8 → k < 8 → q j = q k → j = k) : ∀ j k, j < 8 → k < 8 → rotQ q j = rotQ q k → j = k := by
  intro j k hj hk e
  by_cases c : j = 7
  · by_cases d : k = 7
    · omega
    · rw [c, rotQ_7, rotQ_s (show k < 7 by omega)] at e
      have := h 0 (k + 1) (by omega) (by omega) e
      omega
  · by_cases d : k = 7
    · rw [d, rotQ_7, rotQ_s (show j < 7 by omega)] at e
      have := h (j + 1) 0 (by omega) (by omega) e
      omega
    · rw [rotQ_s (show j < 7 by omega), rotQ_s (show k < 7 by omega)] at e
      have := h (j + 1) (k + 1) (by omega) (by omega) e
      omega
theorem HIS_rem {nx m : Int} {Q : Nat → PT} {q : Nat → Nat} {C : Nat → Nat → Int} {P : PT} {w : Nat → Int} (h : HIS nx m Q q C) (hP : PW P w) (hH : HP P) : HIS ((nx + 1) % 8) (min (m + 1) 8) (uF Q nx.toNat (cpP (Q nx.toNat) P)) (rmQ q m) (rmC C q m w) := by
  obtain ⟨h1, h2, h3, h4, h5, h6⟩ := h
  have hP2 : PW (cpP (Q nx.toNat) P) w := PW_cp hP
  have hH2 : HP (cpP (Q nx.toNat) P) := HP_cp hH
  have h5' : ∀ j, PI (uF Q nx.toNat (cpP (Q nx.toNat) P) j) := fun j => by
    by_cases e : j = nx.toNat
    · rw [e, uF_s]; exact hP2.1
    · rw [uF_n e]; exact h5 j
  by_cases c : m = 8
  · have e7 : (min m 7).toNat = 7 := by omega
    unfold rmC
    rw [rmQ_8 c, e7, rotQ_7]
    refine ⟨by omega, by omega, rotQ_r h3, rotQ_i h4, h5', fun i hi => ?_⟩
    by_cases d : i = 7
    · subst d
      rw [show (((nx + 1) % 8 - min (m + 1) 8 + (7 : Nat)) % 8).toNat = nx.toNat by omega, uF_s, rotQ_7, uF_s]
      exact ⟨hP2, hH2⟩
    · have hi7 : i < 7 := by omega
      have k := h6 (i + 1) (by omega)
      rw [rotQ_s hi7, uF_n (i := q 0) (fun e => by have := h4 (i + 1) 0 (by omega) (by omega) e; omega), show (((nx + 1) % 8 - min (m + 1) 8 + (i : Int)) % 8).toNat = ((nx - m + ((i + 1 : Nat) : Int)) % 8).toNat by omega, uF_n (by omega)]
      exact k
  · have em : (min m 7).toNat = m.toNat := by omega
    unfold rmC
    rw [rmQ_n c, em]
    refine ⟨by omega, by omega, h3, h4, h5', fun i hi => ?_⟩
    by_cases d : (i : Int) = m
    · have e : i = m.toNat := by omega
      rw [show (((nx + 1) % 8 - min (m + 1) 8 + (i : Int)) % 8).toNat = nx.toNat by omega, uF_s, e, uF_s]
      exact ⟨hP2, hH2⟩
    · have k := h6 i (by omega)
      rw [uF_n (i := q m.toNat) (fun e => by have := h4 i m.toNat (by omega) (by omega) e; omega), show (((nx + 1) % 8 - min (m + 1) 8 + (i : Int)) % 8).toNat = ((nx - m + (i : Int)) % 8).toNat by omega, uF_n (by omega)]
      exact k
theorem HIS_und {nx m : Int} {Q : Nat → PT} {q : Nat → Nat} {C : Nat → Nat → Int} (h : HIS nx m Q q C) (hm : 1 ≤ m) : HIS ((nx - 1) % 8) (m - 1) Q q C ∧ PW (Q ((nx - 1) % 8).toNat) (C (q (m - 1).toNat)) ∧ HP (Q ((nx - 1) % 8).toNat) := by
  obtain ⟨h1, h2, h3, h4, h5, h6⟩ := h
  have k := h6 (m - 1).toNat (by omega)
  rw [show ((nx - m + ((m - 1).toNat : Int)) % 8).toNat = ((nx - 1) % 8).toNat by omega] at k
  refine ⟨⟨by omega, by omega, h3, h4, h5, fun i hi => ?_⟩, k⟩
  have k2 := h6 i (by omega)
  rw [show (((nx - 1) % 8 - (m - 1) + (i : Int)) % 8).toNat = ((nx - m + (i : Int)) % 8).toNat by omega]
  exact k2
theorem HIS_0 {nx m : Int} {Q : Nat → PT} {q : Nat → Nat} {C : Nat → Nat → Int} (h : HIS nx m Q q C) : HIS nx 0 Q q C := by
  obtain ⟨h1, h2, h3, h4, h5, h6⟩ := h
  exact ⟨h1, by omega, h3, h4, h5, fun i hi => absurd hi (by omega)⟩
/-! both worlds -/
def SIM (Z : CZ) (Y : RZ) : Prop :=
  (PW (zP Z) (eW Y) ∧ HP (zP Z) ∧ PI (zR Z)) ∧
  (((∀ k : Nat, (k : Int) < eM Y 9 → zT Z k = eT Y k) ∧ ∀ k : Nat, 0 ≤ zT Z k ∧ zT Z k ≤ 255) ∧ (∀ k : Nat, 0 ≤ eT Y k ∧ eT Y k ≤ 255) ∧ zI Z 0 = eM Y 9 ∧ 0 ≤ eM Y 9 ∧ eM Y 9 ≤ 500) ∧
  (HIS (zI Z 2) (eM Y 3) (zQ Z) (eQ Y) (eC Y) ∧ zI Z 3 = eM Y 3) ∧
  (zI Z 1 = eM Y 5 ∧ (eM Y 5 = 0 ∨ eM Y 5 = 1) ∧ PI (zS Z) ∧ (eM Y 5 = 1 → PW (zS Z) (eS Y) ∧ HP (zS Z))) ∧
  (zI Z 4 = eM Y 11 ∧ (0 ≤ eM Y 11 ∧ eM Y 11 ≤ 256) ∧ ∀ k : Nat, (k : Int) < eM Y 11 → zB Z k = eR Y k) ∧
  (zI Z 12 = eM Y 26 ∧ zI Z 13 = eM Y 27) ∧ (0 ≤ zI Z 18 ∧ zI Z 18 ≤ 9999999) ∧ (0 ≤ eM Y 23 ∧ eM Y 23 ≤ 9999999)
/-- numbers of the reference that a call leaves -/
def AM (M N : Nat → Int) : Prop := N 5 = M 5 ∧ N 9 = M 9 ∧ N 11 = M 11 ∧ N 23 = M 23 ∧ N 26 = M 26 ∧ N 27 = M 27
theorem AM_p {M N : Nat → Int} (h : sameP M N) : AM M N ∧ N 3 = M 3 := ⟨⟨h 5 (by omega) (by omega) (by omega), h 9 (by omega) (by omega) (by omega), h 11 (by omega) (by omega) (by omega), h 23 (by omega) (by omega) (by omega), h 26 (by omega) (by omega) (by omega), h 27 (by omega) (by omega) (by omega)⟩, h 3 (by omega) (by omega) (by omega)⟩
theorem AM_q {M N : Nat → Int} (h : sameQ M N) : AM M N := ⟨h 5 (by omega) (by omega) (by omega) (by omega), h 9 (by omega) (by omega) (by omega) (by omega), h 11 (by omega) (by omega) (by omega) (by omega), h 23 (by omega) (by omega) (by omega) (by omega), h 26 (by omega) (by omega) (by omega) (by omega), h 27 (by omega) (by omega) (by omega) (by omega)⟩
theorem AM_0 {M : Nat → Int} {t : Int} : AM M (uI M 0 t) ∧ uI M 0 t 3 = M 3 := ⟨⟨uI_n (by omega), uI_n (by omega), uI_n (by omega), uI_n (by omega), uI_n (by omega), uI_n (by omega)⟩, uI_n (by omega)⟩
section SIM
variable {Z : CZ} {Y : RZ} {N u B A' : Nat → Int} {L A : Nat → Int} {R P' : PT}
/-- a question -/
theorem SIM_q (h : SIM Z Y) (a : AM (eM Y) N ∧ N 3 = eM Y 3) (hR : PI R) : SIM (zI Z, zT Z, zB Z, zP Z, zS Z, R, zQ Z, L, A, zG Z) (N, eW Y, eQ Y, eC Y, eS Y, B, A', eT Y, eR Y) := by
  obtain ⟨⟨h1, h2, h3⟩, ⟨h4, h5, h6, h7, h8⟩, ⟨h9, h10⟩, ⟨h11, h12, h13, h14⟩, ⟨h15, h16, h17⟩, ⟨h18, h19⟩, h20, h21⟩ := h
  obtain ⟨⟨a5, a9, a11, a23, a26, a27⟩, a3⟩ := a
  exact ⟨⟨h1, h2, hR⟩, ⟨by show (∀ k : Nat, (k : Int) < N 9 → zT Z k = eT Y k) ∧ _; rw [a9]; exact h4, h5, h6.trans a9.symm, by show 0 ≤ N 9; rw [a9]; exact h7, by show N 9 ≤ 500; rw [a9]; exact h8⟩, ⟨by show HIS (zI Z 2) (N 3) (zQ Z) (eQ Y) (eC Y); rw [a3]; exact h9, h10.trans a3.symm⟩, ⟨h11.trans a5.symm, by show N 5 = 0 ∨ N 5 = 1; rw [a5]; exact h12, h13, by show N 5 = 1 → PW (zS Z) (eS Y) ∧ HP (zS Z); rw [a5]; exact h14⟩, ⟨h15.trans a11.symm, by show 0 ≤ N 11 ∧ N 11 ≤ 256; rw [a11]; exact h16, by show ∀ k : Nat, (k : Int) < N 11 → zB Z k = eR Y k; rw [a11]; exact h17⟩, ⟨h18.trans a26.symm, h19.trans a27.symm⟩, h20, by show 0 ≤ N 23 ∧ N 23 ≤ 9999999; rw [a23]; exact h21⟩
/-- a change that can be undone -/
theorem SIM_c (h : SIM Z Y) (hP : PW P' u) (hH : HP P') (a : AM (eM Y) N) (b : N 3 = min (eM Y 3 + 1) 8) : SIM (uI (uI (zI Z) 2 ((zI Z 2 + 1) % 8)) 3 (min (zI Z 3 + 1) 8), zT Z, zB Z, P', zS Z, zR Z, uF (zQ Z) (zI Z 2).toNat (cpP (zQ Z (zI Z 2).toNat) (zP Z)), zL Z, zA Z, zG Z) (N, u, rmQ (eQ Y) (eM Y 3), rmC (eC Y) (eQ Y) (eM Y 3) (eW Y), eS Y, eB Y, eA Y, eT Y, eR Y) := by
  obtain ⟨⟨h1, h2, h3⟩, ⟨h4, h5, h6, h7, h8⟩, ⟨h9, h10⟩, ⟨h11, h12, h13, h14⟩, ⟨h15, h16, h17⟩, ⟨h18, h19⟩, h20, h21⟩ := h
  obtain ⟨a5, a9, a11, a23, a26, a27⟩ := a
  have k := HIS_rem h9 h1 h2
  exact ⟨⟨hP, hH, h3⟩, ⟨by show (∀ k : Nat, (k : Int) < N 9 → zT Z k = eT Y k) ∧ _; rw [a9]; exact h4, h5, h6.trans a9.symm, by show 0 ≤ N 9; rw [a9]; exact h7, by show N 9 ≤ 500; rw [a9]; exact h8⟩, ⟨by show HIS ((zI Z 2 + 1) % 8) (N 3) (uF (zQ Z) (zI Z 2).toNat (cpP (zQ Z (zI Z 2).toNat) (zP Z))) (rmQ (eQ Y) (eM Y 3)) (rmC (eC Y) (eQ Y) (eM Y 3) (eW Y)); rw [b]; exact k, by show min (zI Z 3 + 1) 8 = N 3; rw [b, h10]⟩, ⟨h11.trans a5.symm, by show N 5 = 0 ∨ N 5 = 1; rw [a5]; exact h12, h13, by show N 5 = 1 → PW (zS Z) (eS Y) ∧ HP (zS Z); rw [a5]; exact h14⟩, ⟨h15.trans a11.symm, by show 0 ≤ N 11 ∧ N 11 ≤ 256; rw [a11]; exact h16, by show ∀ k : Nat, (k : Int) < N 11 → zB Z k = eR Y k; rw [a11]; exact h17⟩, ⟨h18.trans a26.symm, h19.trans a27.symm⟩, h20, by show 0 ≤ N 23 ∧ N 23 ≤ 9999999; rw [a23]; exact h21⟩
end SIM
section SIMH
variable {Z : CZ} {Y : RZ}
theorem SIM_sz (h : SIM Z Y) : 0 ≤ zI Z 0 ∧ zI Z 0 ≤ 500 := by rw [h.2.1.2.2.1]; exact h.2.1.2.2.2
theorem SIM_nx (h : SIM Z Y) : 0 ≤ zI Z 2 ∧ zI Z 2 < 8 := h.2.2.1.1.1
theorem SIM_m3 (h : SIM Z Y) : 0 ≤ eM Y 3 ∧ eM Y 3 ≤ 8 := h.2.2.1.1.2.1
theorem SIM_kp (h : SIM Z Y) : 0 ≤ zI Z 3 ∧ zI Z 3 ≤ 8 := by rw [h.2.2.1.2]; exact SIM_m3 h
theorem SIM_m5 (h : SIM Z Y) : eM Y 5 = 0 ∨ eM Y 5 = 1 := h.2.2.2.1.2.1
theorem SIM_sv (h : SIM Z Y) : zI Z 1 = 0 ∨ zI Z 1 = 1 := by rw [h.2.2.2.1.1]; exact SIM_m5 h
theorem SIM_rs (h : SIM Z Y) : 0 ≤ zI Z 4 ∧ zI Z 4 ≤ 256 := by rw [h.2.2.2.2.1.1]; exact h.2.2.2.2.1.2.1
theorem SIM_T (h : SIM Z Y) : ∀ k : Nat, 0 ≤ zT Z k ∧ zT Z k ≤ 255 := h.2.1.1.2
theorem SIM_eT (h : SIM Z Y) : ∀ k : Nat, 0 ≤ eT Y k ∧ eT Y k ≤ 255 := h.2.1.2.1
theorem SIM_hq (h : SIM Z Y) (j : Nat) : PI (zQ Z j) := h.2.2.1.1.2.2.2.2.1 j
theorem SIM_q8 (h : SIM Z Y) : ∀ j, j < 8 → eQ Y j < 8 := h.2.2.1.1.2.2.1
theorem SIM_m9 (h : SIM Z Y) : 0 ≤ eM Y 9 ∧ eM Y 9 ≤ 500 := h.2.1.2.2.2
theorem SIM_m11 (h : SIM Z Y) : 0 ≤ eM Y 11 ∧ eM Y 11 ≤ 300 := by have q := h.2.2.2.2.1.2.1; omega
theorem SIM_m23 (h : SIM Z Y) : 0 ≤ eM Y 23 ∧ eM Y 23 ≤ 9999999 := h.2.2.2.2.2.2.2
theorem SIM_w0 (h : SIM Z Y) : ∀ i : Int, 0 ≤ i → i < eW Y 0 → 0 ≤ wOf (eW Y) i 0 ∧ wOf (eW Y) i 0 ≤ 9999999 := fun i h0 hi => by
  have q := HP_HB h.1.1 h.1.2.1 i.toNat (by omega)
  rw [show ((i.toNat : Nat) : Int) = i by omega] at q
  omega
theorem SIM_PI (h : SIM Z Y) : PI (zR Z) := h.1.2.2
end SIMH
